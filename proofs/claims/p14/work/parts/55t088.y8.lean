section
/-! ===== a line and all that it tells: the reference ===== -/
theorem zll_i {t : Nat → Int} {n p q : Nat} {lt : Int → Int} {kn : Int} {v : Int × Int} (e : zll t n lt kn p = .inr (v, q)) : (zk t n (zx t n p) = 1 ∧ 5 ≤ zw t n (zx t n p) ∧ zw t n (zx t n p) ≤ 8) ∧ v.1 = zw t n (zx t n p) - 5 := by
  unfold zll at e
  by_cases h : zk t n (zx t n p) = 1 ∧ 5 ≤ zw t n (zx t n p) ∧ zw t n (zx t n p) ≤ 8
  · rw [if_pos h] at e
    by_cases g : lt (zw t n (zx t n p) - 5) = 0
    · rw [if_pos g] at e
      obtain ⟨k, q1, e1, e⟩ := zb2_e e
      cases e
      exact ⟨h, rfl⟩
    · rw [if_neg g] at e; cases e
  · rw [if_neg h] at e; cases e
section TZ
variable {G : Int} {X : cv_X} {Q : cv_O → Prop} {t : Nat → Int}
set_option maxHeartbeats 8000000 in
theorem rt_lineReadJ {h0 : cv_H} {n p : Nat} (ht : ∀ i, i < n → t i = ri_at h0 112 i) (hn9 : n ≤ 900) (hT : cw_T G h0) (hwr : ∀ i, i < 177 → ri_at h0 113 i = pp_words.getD i 0) (hpn : p ≤ n) (hz : zR t n p h0) (hw5 : ∀ p, p ≤ n → zk t n p = 5 → 0 ≤ zw t n p ∧ zw t n p ≤ 5) {s : zSg} (hs : zSR h0 s) {d : zDt} (hd : zRW 1 h0 s d) (hQ : ∀ (x : Int32) h', cw_T G h' → cw_Fr cw_Ds cw_sh mk_lz h0 h' → zFK h0 h' → zRe t n h0 h' x (zln t n s p) (fun s' => zSR h' s' ∧ zRW 1 h' s' (zlD t n s p d)) → Q (some (cv_i x), h')) : cw_X X 187 Q 0 (cv_ent 0 [cv_r 111]) [] h0 := by
  obtain ⟨gt, lt, kn, gl, wl, cl⟩ := s
  obtain ⟨s1, s2, s3, s4, s5, s6, s7, s8, s9, s10⟩ := hs
  dsimp only at s1 s2 s3 s4 s5 s6 s7 s8 s9 s10
  have l5 : gl.length ≤ 4 := by obtain ⟨y, _, y1, y2, y3⟩ := fi_gatesRead hT; omega
  have l6 : wl.length ≤ 6 := by obtain ⟨y, _, y1, y2, y3⟩ := fi_worksRead hT; omega
  have l7 : cl.length ≤ 6 := by obtain ⟨y, _, y1, y2, y3⟩ := fi_causesRead hT; omega
  have hkn0 : 0 ≤ kn := by obtain ⟨y, _, y1, y2, y3⟩ := fi_knotsRead hT; omega
  have zw1 : zk t n p = 1 → 0 ≤ zw t n p := fun q => (zw_1 hpn q).1
  have Fh0 : cw_Fr cw_Ds cw_sh mk_lz h0 h0 := cw_Fr_refl
  have Kh0 : zFK h0 h0 := zFK_0
  have zxl := zx_le (t := t) hpn
  obtain ⟨z1, z2, z3, z4, z5⟩ := id hz
  replace z5 := zhd_i z5
  have hA : ∀ h, cw_Fr cw_Ds cw_sh mk_lz h0 h → ∀ i, ri_at h 112 i = ri_at h0 112 i := fun h F i => ri_frr F (k := 112) (d := 51) rfl rfl (by decide +kernel)
  have hB : ∀ h, cw_Fr cw_Ds cw_sh mk_lz h0 h → ∀ i, ri_at h 113 i = ri_at h0 113 i := fun h F i => ri_frr F (k := 113) (d := 52) rfl rfl (by decide +kernel)
  refine ex_al oq_X12_lineRead_0 rfl ?_
  obtain ⟨x101, ax101, rx101, lx101, ux101⟩ := fi_kind hT
  refine ex_gf oq_X12_lineRead_1 hT (k := 111) (d := 12) rfl rfl ax101 ?_
  have rx101 := (rx101.symm.trans z4 : x101.toInt = zk t n p)
  refine ex_ic oq_X12_lineRead_4 (m := 1) (by decide) (fun x102 hx102 => ?_)
  refine ex_if oq_X12_lineRead_5 (t := 16) rfl rfl (fun (c103 : ¬ x101.toInt = x102.toInt) => ?_) (fun (c103 : ¬ (¬ x101.toInt = x102.toInt)) => ?_)
  · refine ex_al oq_X12_lineRead_16 rfl ?_
    refine ex_ic oq_X12_lineRead_17 (m := 1) (by decide) (fun x104 hx104 => ?_)
    refine ex_cv oq_X12_lineRead_18 (by decide) hT (k := 111) (d := 12) (as := [cv_i x104]) (stk := []) rfl rfl rfl rfl rfl rfl ⟨rfl, rfl⟩ (R := fun o => ∃ (x : Int32) (hb : cv_H), o = (some (cv_i x), hb) ∧ cw_T G hb ∧ cw_Fr cw_Ds cw_sh kk_X12_wrong.2.2.2.2.2.1 h0 hb ∧ x.toInt = 0 ∧ ri_at hb 111 4 = x104.toInt ∧ ri_at hb 111 5 = ri_at h0 111 10) (rt_wrong hT x104 (fun x hb b1 b2 b3 b4 b5 => ⟨x, hb, rfl, b1, b2, b3, b4, b5⟩)) (fun o ho => ?_)
    obtain ⟨x105, h106, rfl, Th106, Ch106, zh106, fh106, ph106⟩ := ho
    show cw_X _ _ _ _ _ [cv_i x105] h106
    have Fh106 : cw_Fr cw_Ds cw_sh mk_lz h0 h106 := cw_Fr_tr Fh0 (cw_Fr_mono (by decide +kernel) Ch106)
    have Kh106 := zFK_fr Ch106 (by decide +kernel) Kh0
    exact ex_retb oq_X12_lineRead_21 rfl (by omega) (by omega) (hQ x105 h106 Th106 Fh106 Kh106 (.inr ⟨_, _, (by unfold zln; rw [if_neg (by omega)]), by omega, by omega, by omega, by decide⟩))
  · refine ex_al oq_X12_lineRead_8 rfl ?_
    obtain ⟨x107, ax107, rx107, lx107, ux107⟩ := fi_which hT
    refine ex_gf oq_X12_lineRead_9 hT (k := 111) (d := 12) rfl rfl ax107 ?_
    have wx107 : x107.toInt = zw t n p := rx107.symm.trans (hz.2.2.2.2 (by omega) (by omega))
    refine ex_ic oq_X12_lineRead_12 (m := 4) (by decide) (fun x108 hx108 => ?_)
    refine ex_if oq_X12_lineRead_13 (t := 22) rfl rfl (fun (c109 : x107.toInt ≤ x108.toInt) => ?_) (fun (c109 : ¬ (x107.toInt ≤ x108.toInt)) => ?_)
    · refine ex_al oq_X12_lineRead_22 rfl ?_
      obtain ⟨x110, ax110, rx110, lx110, ux110⟩ := fi_which hT
      refine ex_gf oq_X12_lineRead_23 hT (k := 111) (d := 12) rfl rfl ax110 ?_
      have wx110 : x110.toInt = zw t n p := rx110.symm.trans (hz.2.2.2.2 (by omega) (by omega))
      refine ex_tsw oq_X12_lineRead_26 rfl (fun c111 => ⟨rfl, ?_⟩) (fun i hi c111 => ?_)
      · show cw_X _ _ _ 88 _ _ _
        refine ex_al oq_X12_lineRead_88 rfl ?_
        refine ex_cv oq_X12_lineRead_89 (by decide) hT (k := 111) (d := 12) (as := []) (stk := []) rfl rfl rfl rfl rfl rfl ⟨rfl, rfl⟩ (R := fun o => ∃ (x : Int32) (hb : cv_H), o = (some (cv_i x), hb) ∧ cw_T G hb ∧ cw_Fr cw_Ds cw_sh mk_ca h0 hb ∧ zFK h0 hb ∧ zRe t n h0 hb x (zcl t n cl p) (fun v => ((∀ k, k < cl.length → ri_at hb 123 (6 + k) = cl.getD k 0) ∧ ri_at hb 123 (6 + cl.length) = v ∧ ri_at hb 111 18 = cl.length + 1) ∧ zcJ t n cl p h0 hb)) (rt_causeLineJ (t := t) (n := n) (p := p) (fun i hi => by rw [ht i hi, ← hA _ Fh0]) hn9 hT (fun i hi => by rw [hB _ Fh0]; exact hwr i hi) (by omega) hz (l := cl) s7 l7 s10 (fun x hb b1 b2 bk b3 => ⟨x, hb, rfl, b1, b2, bk, b3⟩)) (fun o ho => ?_)
        obtain ⟨x112, h113, rfl, Th113, Ch113, kh113, dx112⟩ := ho
        show cw_X _ _ _ _ _ [cv_i x112] h113
        have Fh113 : cw_Fr cw_Ds cw_sh mk_lz h0 h113 := cw_Fr_tr Fh0 (cw_Fr_mono (by decide +kernel) Ch113)
        have Kh113 := zFK_tr Kh0 kh113
        refine ex_isA oq_X12_lineRead_92 (fun L114 gL114_1 kL114 => ?_)
        have gL114_0 : cv_get L114 0 = some (cv_r 111) := kL114 0 _ (by decide) (fun _ => rfl) rfl
        refine ex_il oq_X12_lineRead_93 gL114_1 ?_
        refine ex_if0 oq_X12_lineRead_94 (t := 99) rfl rfl (fun (c115 : ¬ x112.toInt = 0) => ?_) (fun (c115 : ¬ (¬ x112.toInt = 0)) => ?_)
        · obtain ⟨v1, q1, e1_1, e1_2, ax112, Zh113, e1_5, e1_6, e1_7⟩ := zRe_yes dx112 c115
          clear dx112 c115
          obtain ⟨yah113, ybh113, ych113, ydh113, -⟩ := id Zh113
          have zlh113 := zx_le (t := t) (n := n) (p := q1) (by omega)
          refine ex_al oq_X12_lineRead_99 gL114_0 ?_
          refine ex_bi oq_X12_lineRead_100 (m := 59) (by decide) (fun x116 hx116 => ?_)
          refine ex_cv oq_X12_lineRead_102 (by decide) Th113 (k := 111) (d := 12) (as := [cv_i x116]) (stk := []) rfl rfl rfl rfl rfl rfl ⟨rfl, rfl⟩ (R := fun o => ∃ x : Int32, o = (some (cv_i x), h113) ∧ (x.toInt = 1 ∧ zk t n q1 = 4 ∧ zw t n q1 = x116.toInt ∨ x.toInt = 0 ∧ ¬ (zk t n q1 = 4 ∧ zw t n q1 = x116.toInt))) (rt_isSign (t := t) (n := n) (p := q1) Th113 (by exact Zh113) x116 (fun x q => ⟨x, rfl, q⟩)) (fun o ho => ?_)
          obtain ⟨x117, rfl, dx117⟩ := ho
          show cw_X _ _ _ _ _ [cv_i x117] h113
          rw [hx116] at dx117
          refine ex_if0 oq_X12_lineRead_105 (t := 114) rfl rfl (fun (c118 : ¬ x117.toInt = 0) => ?_) (fun (c118 : ¬ (¬ x117.toInt = 0)) => ?_)
          · obtain ⟨_, dx117, dx117b⟩ := isin_y dx117 c118
            refine ex_al oq_X12_lineRead_114 gL114_0 ?_
            refine ex_cv oq_X12_lineRead_115 (by decide) Th113 (k := 111) (d := 12) (as := []) (stk := []) rfl rfl rfl rfl rfl rfl ⟨rfl, rfl⟩ (R := fun o => ∃ hb : cv_H, o = (none, hb) ∧ cw_T G hb ∧ cw_Fr cw_Ds cw_sh kk_X12_token.2.2.2.2.2.1 h113 hb ∧ zR t n (zx t n q1) hb) (rt_tok (t := t) (n := n) (p := (zx t n q1)) (fun i hi => by rw [ht i hi, ← hA _ Fh113]) hn9 (fun i hi => by rw [hB _ Fh113]; exact hwr i hi) Th113 (zx_le (by omega)) (by omega) (by omega) (fun hb b1 b2 b3 => ⟨hb, rfl, b1, b2, b3⟩)) (fun o ho => ?_)
            obtain ⟨h119, rfl, Th119, Ch119, Zh119⟩ := ho
            show cw_X _ _ _ _ _ [] h119
            have Fh119 : cw_Fr cw_Ds cw_sh mk_lz h0 h119 := cw_Fr_tr Fh113 (cw_Fr_mono (by decide +kernel) Ch119)
            have Kh119 := zFK_fr Ch119 (by decide +kernel) Kh113
            have eh119_111_4 : ri_at h119 111 4 = ri_at h0 111 4 := (ri_frf Ch119 (d := 12) rfl rfl (by decide +kernel)).trans e1_5
            have eh119_111_5 : ri_at h119 111 5 = ri_at h0 111 5 := (ri_frf Ch119 (d := 12) rfl rfl (by decide +kernel)).trans e1_6
            have eh119_111_11 : ri_at h119 111 11 = ri_at h113 111 11 := ri_frf Ch119 (d := 12) rfl rfl (by decide +kernel)
            obtain ⟨yah119, ybh119, ych119, ydh119, -⟩ := id Zh119
            have zlh119 := zx_le (t := t) (n := n) (p := (zx t n q1)) (by omega)
            clear yah113 ybh113 ych113 ydh113
            refine ex_ic oq_X12_lineRead_118 (m := 1) (by decide) (fun x120 hx120 => ?_)
            have zs : zSR h113 (gt, lt, kn, gl, wl, cl ++ [v1]) := ⟨(ri_frf Ch113 (k := 111) (i := 20) rfl rfl (by decide +kernel)).trans s1, fun i hi => (s2 i hi).trans (ri_frr Ch113 (k := 117) (d := 56) rfl rfl (by decide +kernel)).symm, (ri_frf Ch113 (k := 111) (i := 19) rfl rfl (by decide +kernel)).trans s3, (ri_frf Ch113 (k := 111) (i := 40) rfl rfl (by decide +kernel)).trans s4, (ri_frf Ch113 (k := 111) (i := 16) rfl rfl (by decide +kernel)).trans s5, (ri_frf Ch113 (k := 111) (i := 17) rfl rfl (by decide +kernel)).trans s6, (by have := e1_7.1.2.2; show _ = (((cl ++ [_]).length : Nat) : Int); rw [List.length_append, List.length_singleton]; omega), zNm_eq s8 (fun i => ri_frr Ch113 (k := 118) (d := 57) rfl rfl (by decide +kernel)), zNm_eq s9 (fun i => ri_frr Ch113 (k := 121) (d := 60) rfl rfl (by decide +kernel)), (zNm_app e1_7.1.1 e1_7.1.2.1)⟩
            exact ex_retb oq_X12_lineRead_119 rfl (by omega) (by omega) (hQ x120 h119 Th119 Fh119 Kh119 (.inl ⟨(gt, lt, kn, gl, wl, cl ++ [v1]), _, (by unfold zln; rw [if_pos (by omega), zb2_r (show zl0 t n (gt, lt, kn, gl, wl, cl) p = .inr ((gt, lt, kn, gl, wl, cl ++ [v1]), q1) from by unfold zl0; rw [if_neg (by omega), if_neg (by omega), if_neg (by omega), if_neg (by omega), zb2_r e1_1]), if_pos (by omega)]), by omega, by omega, Zh119, by omega, by omega, ⟨zSR_fr Ch119 zs (by decide +kernel), zRW_eq (zRW_c hd (by omega) (zRE_fr Ch113 (by decide +kernel)) e1_7.2) (zRE_fr Ch119 (by decide +kernel))⟩⟩))
          · replace c118 : x117.toInt = 0 := by omega
            replace dx117 := flag_n dx117 c118
            refine ex_al oq_X12_lineRead_108 gL114_0 ?_
            refine ex_ic oq_X12_lineRead_109 (m := 1) (by decide) (fun x121 hx121 => ?_)
            refine ex_cv oq_X12_lineRead_110 (by decide) Th113 (k := 111) (d := 12) (as := [cv_i x121]) (stk := []) rfl rfl rfl rfl rfl rfl ⟨rfl, rfl⟩ (R := fun o => ∃ (x : Int32) (hb : cv_H), o = (some (cv_i x), hb) ∧ cw_T G hb ∧ cw_Fr cw_Ds cw_sh kk_X12_wrong.2.2.2.2.2.1 h113 hb ∧ x.toInt = 0 ∧ ri_at hb 111 4 = x121.toInt ∧ ri_at hb 111 5 = ri_at h113 111 10) (rt_wrong Th113 x121 (fun x hb b1 b2 b3 b4 b5 => ⟨x, hb, rfl, b1, b2, b3, b4, b5⟩)) (fun o ho => ?_)
            obtain ⟨x122, h123, rfl, Th123, Ch123, zh123, fh123, ph123⟩ := ho
            show cw_X _ _ _ _ _ [cv_i x122] h123
            have Fh123 : cw_Fr cw_Ds cw_sh mk_lz h0 h123 := cw_Fr_tr Fh113 (cw_Fr_mono (by decide +kernel) Ch123)
            have Kh123 := zFK_fr Ch123 (by decide +kernel) Kh113
            exact ex_retb oq_X12_lineRead_113 rfl (by omega) (by omega) (hQ x122 h123 Th123 Fh123 Kh123 (.inr ⟨_, _, (by unfold zln; rw [if_pos (by omega), zb2_r (show zl0 t n (gt, lt, kn, gl, wl, cl) p = .inr ((gt, lt, kn, gl, wl, cl ++ [v1]), q1) from by unfold zl0; rw [if_neg (by omega), if_neg (by omega), if_neg (by omega), if_neg (by omega), zb2_r e1_1]), if_neg (by omega)]), by omega, by omega, by omega, by decide⟩))
        · replace c115 : x112.toInt = 0 := by omega
          obtain ⟨fc2, fa2, e2_1, ax112, e2_3, e2_4, e2_5⟩ := zRe_no dx112 c115
          clear dx112
          refine ex_ic oq_X12_lineRead_97 (m := 0) (by decide) (fun x124 hx124 => ?_)
          exact ex_retb oq_X12_lineRead_98 rfl (by omega) (by omega) (hQ x124 h113 Th113 Fh113 Kh113 (.inr ⟨_, _, (by unfold zln; rw [if_pos (by omega), zb2_l (show zl0 t n (gt, lt, kn, gl, wl, cl) p = _ from by unfold zl0; rw [if_neg (by omega), if_neg (by omega), if_neg (by omega), if_neg (by omega), zb2_l e2_1])]), by omega, by omega, by omega, by omega⟩))
      · match i, hi, c111 with
        | 0, _, c111 =>
          refine ⟨rfl, ?_⟩
          show cw_X _ _ _ 56 _ _ _
          refine ex_al oq_X12_lineRead_56 rfl ?_
          refine ex_cv oq_X12_lineRead_57 (by decide) hT (k := 111) (d := 12) (as := []) (stk := []) rfl rfl rfl rfl rfl rfl ⟨rfl, rfl⟩ (R := fun o => ∃ (x : Int32) (hb : cv_H), o = (some (cv_i x), hb) ∧ cw_T G hb ∧ cw_Fr cw_Ds cw_sh kk_X12_groundLine.2.2.2.2.2.1 h0 hb ∧ zFK h0 hb ∧ zRe t n h0 hb x (zgl t n (ri_at h0 111 20) p) (fun vs => (∀ i, i < 12 → ri_at hb 114 (12 + i) = vs.getD i 0) ∧ ri_at hb 111 20 = 1)) (rt_groundLineK (t := t) (n := n) (p := p) (fun i hi => by rw [ht i hi, ← hA _ Fh0]) hn9 hT (fun i hi => by rw [hB _ Fh0]; exact hwr i hi) (by omega) hz  (fun x hb b1 b2 bk b3 => ⟨x, hb, rfl, b1, b2, bk, b3⟩)) (fun o ho => ?_)
          obtain ⟨x125, h126, rfl, Th126, Ch126, kh126, dx125⟩ := ho
          show cw_X _ _ _ _ _ [cv_i x125] h126
          have Fh126 : cw_Fr cw_Ds cw_sh mk_lz h0 h126 := cw_Fr_tr Fh0 (cw_Fr_mono (by decide +kernel) Ch126)
          have Kh126 := zFK_tr Kh0 kh126
          refine ex_isA oq_X12_lineRead_60 (fun L127 gL127_1 kL127 => ?_)
          have gL127_0 : cv_get L127 0 = some (cv_r 111) := kL127 0 _ (by decide) (fun _ => rfl) rfl
          refine ex_go oq_X12_lineRead_61 (t := 93) rfl rfl ?_
          refine ex_il oq_X12_lineRead_93 gL127_1 ?_
          refine ex_if0 oq_X12_lineRead_94 (t := 99) rfl rfl (fun (c128 : ¬ x125.toInt = 0) => ?_) (fun (c128 : ¬ (¬ x125.toInt = 0)) => ?_)
          · obtain ⟨v3, q3, e3_1, e3_2, ax125, Zh126, e3_5, e3_6, e3_7⟩ := zRe_yes dx125 c128
            clear dx125 c128
            obtain ⟨yah126, ybh126, ych126, ydh126, -⟩ := id Zh126
            have zlh126 := zx_le (t := t) (n := n) (p := q3) (by omega)
            refine ex_al oq_X12_lineRead_99 gL127_0 ?_
            refine ex_bi oq_X12_lineRead_100 (m := 59) (by decide) (fun x129 hx129 => ?_)
            refine ex_cv oq_X12_lineRead_102 (by decide) Th126 (k := 111) (d := 12) (as := [cv_i x129]) (stk := []) rfl rfl rfl rfl rfl rfl ⟨rfl, rfl⟩ (R := fun o => ∃ x : Int32, o = (some (cv_i x), h126) ∧ (x.toInt = 1 ∧ zk t n q3 = 4 ∧ zw t n q3 = x129.toInt ∨ x.toInt = 0 ∧ ¬ (zk t n q3 = 4 ∧ zw t n q3 = x129.toInt))) (rt_isSign (t := t) (n := n) (p := q3) Th126 (by exact Zh126) x129 (fun x q => ⟨x, rfl, q⟩)) (fun o ho => ?_)
            obtain ⟨x130, rfl, dx130⟩ := ho
            show cw_X _ _ _ _ _ [cv_i x130] h126
            rw [hx129] at dx130
            refine ex_if0 oq_X12_lineRead_105 (t := 114) rfl rfl (fun (c131 : ¬ x130.toInt = 0) => ?_) (fun (c131 : ¬ (¬ x130.toInt = 0)) => ?_)
            · obtain ⟨_, dx130, dx130b⟩ := isin_y dx130 c131
              refine ex_al oq_X12_lineRead_114 gL127_0 ?_
              refine ex_cv oq_X12_lineRead_115 (by decide) Th126 (k := 111) (d := 12) (as := []) (stk := []) rfl rfl rfl rfl rfl rfl ⟨rfl, rfl⟩ (R := fun o => ∃ hb : cv_H, o = (none, hb) ∧ cw_T G hb ∧ cw_Fr cw_Ds cw_sh kk_X12_token.2.2.2.2.2.1 h126 hb ∧ zR t n (zx t n q3) hb) (rt_tok (t := t) (n := n) (p := (zx t n q3)) (fun i hi => by rw [ht i hi, ← hA _ Fh126]) hn9 (fun i hi => by rw [hB _ Fh126]; exact hwr i hi) Th126 (zx_le (by omega)) (by omega) (by omega) (fun hb b1 b2 b3 => ⟨hb, rfl, b1, b2, b3⟩)) (fun o ho => ?_)
              obtain ⟨h132, rfl, Th132, Ch132, Zh132⟩ := ho
              show cw_X _ _ _ _ _ [] h132
              have Fh132 : cw_Fr cw_Ds cw_sh mk_lz h0 h132 := cw_Fr_tr Fh126 (cw_Fr_mono (by decide +kernel) Ch132)
              have Kh132 := zFK_fr Ch132 (by decide +kernel) Kh126
              have eh132_111_4 : ri_at h132 111 4 = ri_at h0 111 4 := (ri_frf Ch132 (d := 12) rfl rfl (by decide +kernel)).trans e3_5
              have eh132_111_5 : ri_at h132 111 5 = ri_at h0 111 5 := (ri_frf Ch132 (d := 12) rfl rfl (by decide +kernel)).trans e3_6
              have eh132_111_11 : ri_at h132 111 11 = ri_at h126 111 11 := ri_frf Ch132 (d := 12) rfl rfl (by decide +kernel)
              obtain ⟨yah132, ybh132, ych132, ydh132, -⟩ := id Zh132
              have zlh132 := zx_le (t := t) (n := n) (p := (zx t n q3)) (by omega)
              clear yah126 ybh126 ych126 ydh126
              refine ex_ic oq_X12_lineRead_118 (m := 1) (by decide) (fun x133 hx133 => ?_)
              have zs : zSR h126 (1, lt, kn, gl, wl, cl) := ⟨e3_7.2, fun i hi => (s2 i hi).trans (ri_frr Ch126 (k := 117) (d := 56) rfl rfl (by decide +kernel)).symm, (ri_frf Ch126 (k := 111) (i := 19) rfl rfl (by decide +kernel)).trans s3, (ri_frf Ch126 (k := 111) (i := 40) rfl rfl (by decide +kernel)).trans s4, (ri_frf Ch126 (k := 111) (i := 16) rfl rfl (by decide +kernel)).trans s5, (ri_frf Ch126 (k := 111) (i := 17) rfl rfl (by decide +kernel)).trans s6, (ri_frf Ch126 (k := 111) (i := 18) rfl rfl (by decide +kernel)).trans s7, zNm_eq s8 (fun i => ri_frr Ch126 (k := 118) (d := 57) rfl rfl (by decide +kernel)), zNm_eq s9 (fun i => ri_frr Ch126 (k := 121) (d := 60) rfl rfl (by decide +kernel)), zNm_eq s10 (fun i => ri_frr Ch126 (k := 123) (d := 62) rfl rfl (by decide +kernel))⟩
              exact ex_retb oq_X12_lineRead_119 rfl (by omega) (by omega) (hQ x133 h132 Th132 Fh132 Kh132 (.inl ⟨(1, lt, kn, gl, wl, cl), _, (by unfold zln; rw [if_pos (by omega), zb2_r (show zl0 t n (gt, lt, kn, gl, wl, cl) p = .inr ((1, lt, kn, gl, wl, cl), q3) from by unfold zl0; rw [if_pos (by omega), zb2_r (show zgl t n gt p = _ from by rw [← s1]; exact e3_1)]), if_pos (by omega)]), by omega, by omega, Zh132, by omega, by omega, ⟨zSR_fr Ch132 zs (by decide +kernel), zRW_eq (zRW_n hd (by omega) (show zgl t n gt p = _ from by rw [← s1]; exact e3_1) (zRE_fr Ch126 (by decide +kernel)) e3_7.1) (zRE_fr Ch132 (by decide +kernel))⟩⟩))
            · replace c131 : x130.toInt = 0 := by omega
              replace dx130 := flag_n dx130 c131
              refine ex_al oq_X12_lineRead_108 gL127_0 ?_
              refine ex_ic oq_X12_lineRead_109 (m := 1) (by decide) (fun x134 hx134 => ?_)
              refine ex_cv oq_X12_lineRead_110 (by decide) Th126 (k := 111) (d := 12) (as := [cv_i x134]) (stk := []) rfl rfl rfl rfl rfl rfl ⟨rfl, rfl⟩ (R := fun o => ∃ (x : Int32) (hb : cv_H), o = (some (cv_i x), hb) ∧ cw_T G hb ∧ cw_Fr cw_Ds cw_sh kk_X12_wrong.2.2.2.2.2.1 h126 hb ∧ x.toInt = 0 ∧ ri_at hb 111 4 = x134.toInt ∧ ri_at hb 111 5 = ri_at h126 111 10) (rt_wrong Th126 x134 (fun x hb b1 b2 b3 b4 b5 => ⟨x, hb, rfl, b1, b2, b3, b4, b5⟩)) (fun o ho => ?_)
              obtain ⟨x135, h136, rfl, Th136, Ch136, zh136, fh136, ph136⟩ := ho
              show cw_X _ _ _ _ _ [cv_i x135] h136
              have Fh136 : cw_Fr cw_Ds cw_sh mk_lz h0 h136 := cw_Fr_tr Fh126 (cw_Fr_mono (by decide +kernel) Ch136)
              have Kh136 := zFK_fr Ch136 (by decide +kernel) Kh126
              exact ex_retb oq_X12_lineRead_113 rfl (by omega) (by omega) (hQ x135 h136 Th136 Fh136 Kh136 (.inr ⟨_, _, (by unfold zln; rw [if_pos (by omega), zb2_r (show zl0 t n (gt, lt, kn, gl, wl, cl) p = .inr ((1, lt, kn, gl, wl, cl), q3) from by unfold zl0; rw [if_pos (by omega), zb2_r (show zgl t n gt p = _ from by rw [← s1]; exact e3_1)]), if_neg (by omega)]), by omega, by omega, by omega, by decide⟩))
          · replace c128 : x125.toInt = 0 := by omega
            obtain ⟨fc4, fa4, e4_1, ax125, e4_3, e4_4, e4_5⟩ := zRe_no dx125 c128
            clear dx125
            refine ex_ic oq_X12_lineRead_97 (m := 0) (by decide) (fun x137 hx137 => ?_)
            exact ex_retb oq_X12_lineRead_98 rfl (by omega) (by omega) (hQ x137 h126 Th126 Fh126 Kh126 (.inr ⟨_, _, (by unfold zln; rw [if_pos (by omega), zb2_l (show zl0 t n (gt, lt, kn, gl, wl, cl) p = _ from by unfold zl0; rw [if_pos (by omega), zb2_l (show zgl t n gt p = _ from by rw [← s1]; exact e4_1)])]), by omega, by omega, by omega, by omega⟩))
        | 1, _, c111 =>
          refine ⟨rfl, ?_⟩
          show cw_X _ _ _ 64 _ _ _
          refine ex_al oq_X12_lineRead_64 rfl ?_
          refine ex_cv oq_X12_lineRead_65 (by decide) hT (k := 111) (d := 12) (as := []) (stk := []) rfl rfl rfl rfl rfl rfl ⟨rfl, rfl⟩ (R := fun o => ∃ (x : Int32) (hb : cv_H), o = (some (cv_i x), hb) ∧ cw_T G hb ∧ cw_Fr cw_Ds cw_sh mk_ll h0 hb ∧ zFK h0 hb ∧ zRe t n h0 hb x (zll t n lt kn p) (fun s => ri_at hb 111 19 = s.2 ∧ ri_at hb 111 40 = s.2 ∧ (∀ i : Int, 0 ≤ i ∧ i ≤ 3 → (if i = s.1 then 1 else lt i) = ri_at hb 117 (4 + i.toNat)) ∧ zLW t n p (fun i => (ri_at h0 125 (64 + i), ri_at h0 126 (64 + i), ri_at h0 127 (64 + i))) kn.toNat kn s.2 h0 hb)) (rt_lawLineK (t := t) (n := n) (p := p) (fun i hi => by rw [ht i hi, ← hA _ Fh0]) hn9 hT (fun i hi => by rw [hB _ Fh0]; exact hwr i hi) (by omega) hz hw5 (kn := kn) s3 s4 (lt := lt) s2 (V := fun i => (ri_at h0 125 (64 + i), ri_at h0 126 (64 + i), ri_at h0 127 (64 + i))) (fb := kn.toNat) (by omega) (fun i _ => ⟨rfl, rfl, rfl⟩) (fun x hb b1 b2 bk b3 => ⟨x, hb, rfl, b1, b2, bk, b3⟩)) (fun o ho => ?_)
          obtain ⟨x138, h139, rfl, Th139, Ch139, kh139, dx138⟩ := ho
          show cw_X _ _ _ _ _ [cv_i x138] h139
          have Fh139 : cw_Fr cw_Ds cw_sh mk_lz h0 h139 := cw_Fr_tr Fh0 (cw_Fr_mono (by decide +kernel) Ch139)
          have Kh139 := zFK_tr Kh0 kh139
          refine ex_isA oq_X12_lineRead_68 (fun L140 gL140_1 kL140 => ?_)
          have gL140_0 : cv_get L140 0 = some (cv_r 111) := kL140 0 _ (by decide) (fun _ => rfl) rfl
          refine ex_go oq_X12_lineRead_69 (t := 93) rfl rfl ?_
          refine ex_il oq_X12_lineRead_93 gL140_1 ?_
          refine ex_if0 oq_X12_lineRead_94 (t := 99) rfl rfl (fun (c141 : ¬ x138.toInt = 0) => ?_) (fun (c141 : ¬ (¬ x138.toInt = 0)) => ?_)
          · obtain ⟨v5, q5, e5_1, e5_2, ax138, Zh139, e5_5, e5_6, e5_7⟩ := zRe_yes dx138 c141
            clear dx138 c141
            obtain ⟨yah139, ybh139, ych139, ydh139, -⟩ := id Zh139
            have zlh139 := zx_le (t := t) (n := n) (p := q5) (by omega)
            refine ex_al oq_X12_lineRead_99 gL140_0 ?_
            refine ex_bi oq_X12_lineRead_100 (m := 59) (by decide) (fun x142 hx142 => ?_)
            refine ex_cv oq_X12_lineRead_102 (by decide) Th139 (k := 111) (d := 12) (as := [cv_i x142]) (stk := []) rfl rfl rfl rfl rfl rfl ⟨rfl, rfl⟩ (R := fun o => ∃ x : Int32, o = (some (cv_i x), h139) ∧ (x.toInt = 1 ∧ zk t n q5 = 4 ∧ zw t n q5 = x142.toInt ∨ x.toInt = 0 ∧ ¬ (zk t n q5 = 4 ∧ zw t n q5 = x142.toInt))) (rt_isSign (t := t) (n := n) (p := q5) Th139 (by exact Zh139) x142 (fun x q => ⟨x, rfl, q⟩)) (fun o ho => ?_)
            obtain ⟨x143, rfl, dx143⟩ := ho
            show cw_X _ _ _ _ _ [cv_i x143] h139
            rw [hx142] at dx143
            refine ex_if0 oq_X12_lineRead_105 (t := 114) rfl rfl (fun (c144 : ¬ x143.toInt = 0) => ?_) (fun (c144 : ¬ (¬ x143.toInt = 0)) => ?_)
            · obtain ⟨_, dx143, dx143b⟩ := isin_y dx143 c144
              refine ex_al oq_X12_lineRead_114 gL140_0 ?_
              refine ex_cv oq_X12_lineRead_115 (by decide) Th139 (k := 111) (d := 12) (as := []) (stk := []) rfl rfl rfl rfl rfl rfl ⟨rfl, rfl⟩ (R := fun o => ∃ hb : cv_H, o = (none, hb) ∧ cw_T G hb ∧ cw_Fr cw_Ds cw_sh kk_X12_token.2.2.2.2.2.1 h139 hb ∧ zR t n (zx t n q5) hb) (rt_tok (t := t) (n := n) (p := (zx t n q5)) (fun i hi => by rw [ht i hi, ← hA _ Fh139]) hn9 (fun i hi => by rw [hB _ Fh139]; exact hwr i hi) Th139 (zx_le (by omega)) (by omega) (by omega) (fun hb b1 b2 b3 => ⟨hb, rfl, b1, b2, b3⟩)) (fun o ho => ?_)
              obtain ⟨h145, rfl, Th145, Ch145, Zh145⟩ := ho
              show cw_X _ _ _ _ _ [] h145
              have Fh145 : cw_Fr cw_Ds cw_sh mk_lz h0 h145 := cw_Fr_tr Fh139 (cw_Fr_mono (by decide +kernel) Ch145)
              have Kh145 := zFK_fr Ch145 (by decide +kernel) Kh139
              have eh145_111_4 : ri_at h145 111 4 = ri_at h0 111 4 := (ri_frf Ch145 (d := 12) rfl rfl (by decide +kernel)).trans e5_5
              have eh145_111_5 : ri_at h145 111 5 = ri_at h0 111 5 := (ri_frf Ch145 (d := 12) rfl rfl (by decide +kernel)).trans e5_6
              have eh145_111_11 : ri_at h145 111 11 = ri_at h139 111 11 := ri_frf Ch145 (d := 12) rfl rfl (by decide +kernel)
              obtain ⟨yah145, ybh145, ych145, ydh145, -⟩ := id Zh145
              have zlh145 := zx_le (t := t) (n := n) (p := (zx t n q5)) (by omega)
              clear yah139 ybh139 ych139 ydh139
              refine ex_ic oq_X12_lineRead_118 (m := 1) (by decide) (fun x146 hx146 => ?_)
              have zs : zSR h139 (gt, (fun i => if i = v5.1 then 1 else lt i), v5.2, gl, wl, cl) := ⟨(ri_frf Ch139 (k := 111) (i := 20) rfl rfl (by decide +kernel)).trans s1, e5_7.2.2.1, e5_7.1, e5_7.2.1, (ri_frf Ch139 (k := 111) (i := 16) rfl rfl (by decide +kernel)).trans s5, (ri_frf Ch139 (k := 111) (i := 17) rfl rfl (by decide +kernel)).trans s6, (ri_frf Ch139 (k := 111) (i := 18) rfl rfl (by decide +kernel)).trans s7, zNm_eq s8 (fun i => ri_frr Ch139 (k := 118) (d := 57) rfl rfl (by decide +kernel)), zNm_eq s9 (fun i => ri_frr Ch139 (k := 121) (d := 60) rfl rfl (by decide +kernel)), zNm_eq s10 (fun i => ri_frr Ch139 (k := 123) (d := 62) rfl rfl (by decide +kernel))⟩
              exact ex_retb oq_X12_lineRead_119 rfl (by omega) (by omega) (hQ x146 h145 Th145 Fh145 Kh145 (.inl ⟨(gt, (fun i => if i = v5.1 then 1 else lt i), v5.2, gl, wl, cl), _, (by unfold zln; rw [if_pos (by omega), zb2_r (show zl0 t n (gt, lt, kn, gl, wl, cl) p = .inr ((gt, (fun i => if i = v5.1 then 1 else lt i), v5.2, gl, wl, cl), q5) from by unfold zl0; rw [if_neg (by omega), if_pos (by omega), zb2_r e5_1]), if_pos (by omega)]), by omega, by omega, Zh145, by omega, by omega, ⟨zSR_fr Ch145 zs (by decide +kernel), zRW_eq (by have ei := zll_i e5_1; rw [ei.2]; exact zRW_l (fb := kn.toNat) (by omega) hd (by omega) ⟨ei.1.2.1, ei.1.2.2⟩ (zRE_fr Ch139 (by decide +kernel)) e5_7.2.2.2) (zRE_fr Ch145 (by decide +kernel))⟩⟩))
            · replace c144 : x143.toInt = 0 := by omega
              replace dx143 := flag_n dx143 c144
              refine ex_al oq_X12_lineRead_108 gL140_0 ?_
              refine ex_ic oq_X12_lineRead_109 (m := 1) (by decide) (fun x147 hx147 => ?_)
              refine ex_cv oq_X12_lineRead_110 (by decide) Th139 (k := 111) (d := 12) (as := [cv_i x147]) (stk := []) rfl rfl rfl rfl rfl rfl ⟨rfl, rfl⟩ (R := fun o => ∃ (x : Int32) (hb : cv_H), o = (some (cv_i x), hb) ∧ cw_T G hb ∧ cw_Fr cw_Ds cw_sh kk_X12_wrong.2.2.2.2.2.1 h139 hb ∧ x.toInt = 0 ∧ ri_at hb 111 4 = x147.toInt ∧ ri_at hb 111 5 = ri_at h139 111 10) (rt_wrong Th139 x147 (fun x hb b1 b2 b3 b4 b5 => ⟨x, hb, rfl, b1, b2, b3, b4, b5⟩)) (fun o ho => ?_)
              obtain ⟨x148, h149, rfl, Th149, Ch149, zh149, fh149, ph149⟩ := ho
              show cw_X _ _ _ _ _ [cv_i x148] h149
              have Fh149 : cw_Fr cw_Ds cw_sh mk_lz h0 h149 := cw_Fr_tr Fh139 (cw_Fr_mono (by decide +kernel) Ch149)
              have Kh149 := zFK_fr Ch149 (by decide +kernel) Kh139
              exact ex_retb oq_X12_lineRead_113 rfl (by omega) (by omega) (hQ x148 h149 Th149 Fh149 Kh149 (.inr ⟨_, _, (by unfold zln; rw [if_pos (by omega), zb2_r (show zl0 t n (gt, lt, kn, gl, wl, cl) p = .inr ((gt, (fun i => if i = v5.1 then 1 else lt i), v5.2, gl, wl, cl), q5) from by unfold zl0; rw [if_neg (by omega), if_pos (by omega), zb2_r e5_1]), if_neg (by omega)]), by omega, by omega, by omega, by decide⟩))
          · replace c141 : x138.toInt = 0 := by omega
            obtain ⟨fc6, fa6, e6_1, ax138, e6_3, e6_4, e6_5⟩ := zRe_no dx138 c141
            clear dx138
            refine ex_ic oq_X12_lineRead_97 (m := 0) (by decide) (fun x150 hx150 => ?_)
            exact ex_retb oq_X12_lineRead_98 rfl (by omega) (by omega) (hQ x150 h139 Th139 Fh139 Kh139 (.inr ⟨_, _, (by unfold zln; rw [if_pos (by omega), zb2_l (show zl0 t n (gt, lt, kn, gl, wl, cl) p = _ from by unfold zl0; rw [if_neg (by omega), if_pos (by omega), zb2_l e6_1])]), by omega, by omega, by omega, by omega⟩))
        | 2, _, c111 =>
          refine ⟨rfl, ?_⟩
          show cw_X _ _ _ 72 _ _ _
          refine ex_al oq_X12_lineRead_72 rfl ?_
          refine ex_cv oq_X12_lineRead_73 (by decide) hT (k := 111) (d := 12) (as := []) (stk := []) rfl rfl rfl rfl rfl rfl ⟨rfl, rfl⟩ (R := fun o => ∃ (x : Int32) (hb : cv_H), o = (some (cv_i x), hb) ∧ cw_T G hb ∧ cw_Fr cw_Ds cw_sh mk_gz h0 hb ∧ zFK h0 hb ∧ zRe t n h0 hb x (zgt t n gl cl p) (fun v => ((∀ k, k < gl.length → ri_at hb 118 (4 + k) = gl.getD k 0) ∧ ri_at hb 118 (4 + gl.length) = v ∧ ri_at hb 111 16 = gl.length + 1) ∧ zgJ t n gl cl p h0 hb)) (rt_gateLineJ (t := t) (n := n) (p := p) (fun i hi => by rw [ht i hi, ← hA _ Fh0]) hn9 hT (fun i hi => by rw [hB _ Fh0]; exact hwr i hi) (by omega) hz (l := gl) (cn := cl) s5 l5 s8 s7 l7 s10 (fun x hb b1 b2 bk b3 => ⟨x, hb, rfl, b1, b2, bk, b3⟩)) (fun o ho => ?_)
          obtain ⟨x151, h152, rfl, Th152, Ch152, kh152, dx151⟩ := ho
          show cw_X _ _ _ _ _ [cv_i x151] h152
          have Fh152 : cw_Fr cw_Ds cw_sh mk_lz h0 h152 := cw_Fr_tr Fh0 (cw_Fr_mono (by decide +kernel) Ch152)
          have Kh152 := zFK_tr Kh0 kh152
          refine ex_isA oq_X12_lineRead_76 (fun L153 gL153_1 kL153 => ?_)
          have gL153_0 : cv_get L153 0 = some (cv_r 111) := kL153 0 _ (by decide) (fun _ => rfl) rfl
          refine ex_go oq_X12_lineRead_77 (t := 93) rfl rfl ?_
          refine ex_il oq_X12_lineRead_93 gL153_1 ?_
          refine ex_if0 oq_X12_lineRead_94 (t := 99) rfl rfl (fun (c154 : ¬ x151.toInt = 0) => ?_) (fun (c154 : ¬ (¬ x151.toInt = 0)) => ?_)
          · obtain ⟨v7, q7, e7_1, e7_2, ax151, Zh152, e7_5, e7_6, e7_7⟩ := zRe_yes dx151 c154
            clear dx151 c154
            obtain ⟨yah152, ybh152, ych152, ydh152, -⟩ := id Zh152
            have zlh152 := zx_le (t := t) (n := n) (p := q7) (by omega)
            refine ex_al oq_X12_lineRead_99 gL153_0 ?_
            refine ex_bi oq_X12_lineRead_100 (m := 59) (by decide) (fun x155 hx155 => ?_)
            refine ex_cv oq_X12_lineRead_102 (by decide) Th152 (k := 111) (d := 12) (as := [cv_i x155]) (stk := []) rfl rfl rfl rfl rfl rfl ⟨rfl, rfl⟩ (R := fun o => ∃ x : Int32, o = (some (cv_i x), h152) ∧ (x.toInt = 1 ∧ zk t n q7 = 4 ∧ zw t n q7 = x155.toInt ∨ x.toInt = 0 ∧ ¬ (zk t n q7 = 4 ∧ zw t n q7 = x155.toInt))) (rt_isSign (t := t) (n := n) (p := q7) Th152 (by exact Zh152) x155 (fun x q => ⟨x, rfl, q⟩)) (fun o ho => ?_)
            obtain ⟨x156, rfl, dx156⟩ := ho
            show cw_X _ _ _ _ _ [cv_i x156] h152
            rw [hx155] at dx156
            refine ex_if0 oq_X12_lineRead_105 (t := 114) rfl rfl (fun (c157 : ¬ x156.toInt = 0) => ?_) (fun (c157 : ¬ (¬ x156.toInt = 0)) => ?_)
            · obtain ⟨_, dx156, dx156b⟩ := isin_y dx156 c157
              refine ex_al oq_X12_lineRead_114 gL153_0 ?_
              refine ex_cv oq_X12_lineRead_115 (by decide) Th152 (k := 111) (d := 12) (as := []) (stk := []) rfl rfl rfl rfl rfl rfl ⟨rfl, rfl⟩ (R := fun o => ∃ hb : cv_H, o = (none, hb) ∧ cw_T G hb ∧ cw_Fr cw_Ds cw_sh kk_X12_token.2.2.2.2.2.1 h152 hb ∧ zR t n (zx t n q7) hb) (rt_tok (t := t) (n := n) (p := (zx t n q7)) (fun i hi => by rw [ht i hi, ← hA _ Fh152]) hn9 (fun i hi => by rw [hB _ Fh152]; exact hwr i hi) Th152 (zx_le (by omega)) (by omega) (by omega) (fun hb b1 b2 b3 => ⟨hb, rfl, b1, b2, b3⟩)) (fun o ho => ?_)
              obtain ⟨h158, rfl, Th158, Ch158, Zh158⟩ := ho
              show cw_X _ _ _ _ _ [] h158
              have Fh158 : cw_Fr cw_Ds cw_sh mk_lz h0 h158 := cw_Fr_tr Fh152 (cw_Fr_mono (by decide +kernel) Ch158)
              have Kh158 := zFK_fr Ch158 (by decide +kernel) Kh152
              have eh158_111_4 : ri_at h158 111 4 = ri_at h0 111 4 := (ri_frf Ch158 (d := 12) rfl rfl (by decide +kernel)).trans e7_5
              have eh158_111_5 : ri_at h158 111 5 = ri_at h0 111 5 := (ri_frf Ch158 (d := 12) rfl rfl (by decide +kernel)).trans e7_6
              have eh158_111_11 : ri_at h158 111 11 = ri_at h152 111 11 := ri_frf Ch158 (d := 12) rfl rfl (by decide +kernel)
              obtain ⟨yah158, ybh158, ych158, ydh158, -⟩ := id Zh158
              have zlh158 := zx_le (t := t) (n := n) (p := (zx t n q7)) (by omega)
              clear yah152 ybh152 ych152 ydh152
              refine ex_ic oq_X12_lineRead_118 (m := 1) (by decide) (fun x159 hx159 => ?_)
              have zs : zSR h152 (gt, lt, kn, gl ++ [v7], wl, cl) := ⟨(ri_frf Ch152 (k := 111) (i := 20) rfl rfl (by decide +kernel)).trans s1, fun i hi => (s2 i hi).trans (ri_frr Ch152 (k := 117) (d := 56) rfl rfl (by decide +kernel)).symm, (ri_frf Ch152 (k := 111) (i := 19) rfl rfl (by decide +kernel)).trans s3, (ri_frf Ch152 (k := 111) (i := 40) rfl rfl (by decide +kernel)).trans s4, (by have := e7_7.1.2.2; show _ = (((gl ++ [_]).length : Nat) : Int); rw [List.length_append, List.length_singleton]; omega), (ri_frf Ch152 (k := 111) (i := 17) rfl rfl (by decide +kernel)).trans s6, (ri_frf Ch152 (k := 111) (i := 18) rfl rfl (by decide +kernel)).trans s7, (zNm_app e7_7.1.1 e7_7.1.2.1), zNm_eq s9 (fun i => ri_frr Ch152 (k := 121) (d := 60) rfl rfl (by decide +kernel)), zNm_eq s10 (fun i => ri_frr Ch152 (k := 123) (d := 62) rfl rfl (by decide +kernel))⟩
              exact ex_retb oq_X12_lineRead_119 rfl (by omega) (by omega) (hQ x159 h158 Th158 Fh158 Kh158 (.inl ⟨(gt, lt, kn, gl ++ [v7], wl, cl), _, (by unfold zln; rw [if_pos (by omega), zb2_r (show zl0 t n (gt, lt, kn, gl, wl, cl) p = .inr ((gt, lt, kn, gl ++ [v7], wl, cl), q7) from by unfold zl0; rw [if_neg (by omega), if_neg (by omega), if_pos (by omega), zb2_r e7_1]), if_pos (by omega)]), by omega, by omega, Zh158, by omega, by omega, ⟨zSR_fr Ch158 zs (by decide +kernel), zRW_eq (zRW_g hd (by omega) (zRE_fr Ch152 (by decide +kernel)) e7_7.2) (zRE_fr Ch158 (by decide +kernel))⟩⟩))
            · replace c157 : x156.toInt = 0 := by omega
              replace dx156 := flag_n dx156 c157
              refine ex_al oq_X12_lineRead_108 gL153_0 ?_
              refine ex_ic oq_X12_lineRead_109 (m := 1) (by decide) (fun x160 hx160 => ?_)
              refine ex_cv oq_X12_lineRead_110 (by decide) Th152 (k := 111) (d := 12) (as := [cv_i x160]) (stk := []) rfl rfl rfl rfl rfl rfl ⟨rfl, rfl⟩ (R := fun o => ∃ (x : Int32) (hb : cv_H), o = (some (cv_i x), hb) ∧ cw_T G hb ∧ cw_Fr cw_Ds cw_sh kk_X12_wrong.2.2.2.2.2.1 h152 hb ∧ x.toInt = 0 ∧ ri_at hb 111 4 = x160.toInt ∧ ri_at hb 111 5 = ri_at h152 111 10) (rt_wrong Th152 x160 (fun x hb b1 b2 b3 b4 b5 => ⟨x, hb, rfl, b1, b2, b3, b4, b5⟩)) (fun o ho => ?_)
              obtain ⟨x161, h162, rfl, Th162, Ch162, zh162, fh162, ph162⟩ := ho
              show cw_X _ _ _ _ _ [cv_i x161] h162
              have Fh162 : cw_Fr cw_Ds cw_sh mk_lz h0 h162 := cw_Fr_tr Fh152 (cw_Fr_mono (by decide +kernel) Ch162)
              have Kh162 := zFK_fr Ch162 (by decide +kernel) Kh152
              exact ex_retb oq_X12_lineRead_113 rfl (by omega) (by omega) (hQ x161 h162 Th162 Fh162 Kh162 (.inr ⟨_, _, (by unfold zln; rw [if_pos (by omega), zb2_r (show zl0 t n (gt, lt, kn, gl, wl, cl) p = .inr ((gt, lt, kn, gl ++ [v7], wl, cl), q7) from by unfold zl0; rw [if_neg (by omega), if_neg (by omega), if_pos (by omega), zb2_r e7_1]), if_neg (by omega)]), by omega, by omega, by omega, by decide⟩))
          · replace c154 : x151.toInt = 0 := by omega
            obtain ⟨fc8, fa8, e8_1, ax151, e8_3, e8_4, e8_5⟩ := zRe_no dx151 c154
            clear dx151
            refine ex_ic oq_X12_lineRead_97 (m := 0) (by decide) (fun x163 hx163 => ?_)
            exact ex_retb oq_X12_lineRead_98 rfl (by omega) (by omega) (hQ x163 h152 Th152 Fh152 Kh152 (.inr ⟨_, _, (by unfold zln; rw [if_pos (by omega), zb2_l (show zl0 t n (gt, lt, kn, gl, wl, cl) p = _ from by unfold zl0; rw [if_neg (by omega), if_neg (by omega), if_pos (by omega), zb2_l e8_1])]), by omega, by omega, by omega, by omega⟩))
        | 3, _, c111 =>
          refine ⟨rfl, ?_⟩
          show cw_X _ _ _ 80 _ _ _
          refine ex_al oq_X12_lineRead_80 rfl ?_
          refine ex_cv oq_X12_lineRead_81 (by decide) hT (k := 111) (d := 12) (as := []) (stk := []) rfl rfl rfl rfl rfl rfl ⟨rfl, rfl⟩ (R := fun o => ∃ (x : Int32) (hb : cv_H), o = (some (cv_i x), hb) ∧ cw_T G hb ∧ cw_Fr cw_Ds cw_sh mk_wo h0 hb ∧ zFK h0 hb ∧ zRe t n h0 hb x (zwl t n wl p) (fun v => ((∀ k, k < wl.length → ri_at hb 121 (6 + k) = wl.getD k 0) ∧ ri_at hb 121 (6 + wl.length) = v ∧ ri_at hb 111 17 = wl.length + 1) ∧ zwJ t n wl p h0 hb)) (rt_workLineJ (t := t) (n := n) (p := p) (fun i hi => by rw [ht i hi, ← hA _ Fh0]) hn9 hT (fun i hi => by rw [hB _ Fh0]; exact hwr i hi) (by omega) hz (l := wl) s6 l6 s9 (fun x hb b1 b2 bk b3 => ⟨x, hb, rfl, b1, b2, bk, b3⟩)) (fun o ho => ?_)
          obtain ⟨x164, h165, rfl, Th165, Ch165, kh165, dx164⟩ := ho
          show cw_X _ _ _ _ _ [cv_i x164] h165
          have Fh165 : cw_Fr cw_Ds cw_sh mk_lz h0 h165 := cw_Fr_tr Fh0 (cw_Fr_mono (by decide +kernel) Ch165)
          have Kh165 := zFK_tr Kh0 kh165
          refine ex_isA oq_X12_lineRead_84 (fun L166 gL166_1 kL166 => ?_)
          have gL166_0 : cv_get L166 0 = some (cv_r 111) := kL166 0 _ (by decide) (fun _ => rfl) rfl
          refine ex_go oq_X12_lineRead_85 (t := 93) rfl rfl ?_
          refine ex_il oq_X12_lineRead_93 gL166_1 ?_
          refine ex_if0 oq_X12_lineRead_94 (t := 99) rfl rfl (fun (c167 : ¬ x164.toInt = 0) => ?_) (fun (c167 : ¬ (¬ x164.toInt = 0)) => ?_)
          · obtain ⟨v9, q9, e9_1, e9_2, ax164, Zh165, e9_5, e9_6, e9_7⟩ := zRe_yes dx164 c167
            clear dx164 c167
            obtain ⟨yah165, ybh165, ych165, ydh165, -⟩ := id Zh165
            have zlh165 := zx_le (t := t) (n := n) (p := q9) (by omega)
            refine ex_al oq_X12_lineRead_99 gL166_0 ?_
            refine ex_bi oq_X12_lineRead_100 (m := 59) (by decide) (fun x168 hx168 => ?_)
            refine ex_cv oq_X12_lineRead_102 (by decide) Th165 (k := 111) (d := 12) (as := [cv_i x168]) (stk := []) rfl rfl rfl rfl rfl rfl ⟨rfl, rfl⟩ (R := fun o => ∃ x : Int32, o = (some (cv_i x), h165) ∧ (x.toInt = 1 ∧ zk t n q9 = 4 ∧ zw t n q9 = x168.toInt ∨ x.toInt = 0 ∧ ¬ (zk t n q9 = 4 ∧ zw t n q9 = x168.toInt))) (rt_isSign (t := t) (n := n) (p := q9) Th165 (by exact Zh165) x168 (fun x q => ⟨x, rfl, q⟩)) (fun o ho => ?_)
            obtain ⟨x169, rfl, dx169⟩ := ho
            show cw_X _ _ _ _ _ [cv_i x169] h165
            rw [hx168] at dx169
            refine ex_if0 oq_X12_lineRead_105 (t := 114) rfl rfl (fun (c170 : ¬ x169.toInt = 0) => ?_) (fun (c170 : ¬ (¬ x169.toInt = 0)) => ?_)
            · obtain ⟨_, dx169, dx169b⟩ := isin_y dx169 c170
              refine ex_al oq_X12_lineRead_114 gL166_0 ?_
              refine ex_cv oq_X12_lineRead_115 (by decide) Th165 (k := 111) (d := 12) (as := []) (stk := []) rfl rfl rfl rfl rfl rfl ⟨rfl, rfl⟩ (R := fun o => ∃ hb : cv_H, o = (none, hb) ∧ cw_T G hb ∧ cw_Fr cw_Ds cw_sh kk_X12_token.2.2.2.2.2.1 h165 hb ∧ zR t n (zx t n q9) hb) (rt_tok (t := t) (n := n) (p := (zx t n q9)) (fun i hi => by rw [ht i hi, ← hA _ Fh165]) hn9 (fun i hi => by rw [hB _ Fh165]; exact hwr i hi) Th165 (zx_le (by omega)) (by omega) (by omega) (fun hb b1 b2 b3 => ⟨hb, rfl, b1, b2, b3⟩)) (fun o ho => ?_)
              obtain ⟨h171, rfl, Th171, Ch171, Zh171⟩ := ho
              show cw_X _ _ _ _ _ [] h171
              have Fh171 : cw_Fr cw_Ds cw_sh mk_lz h0 h171 := cw_Fr_tr Fh165 (cw_Fr_mono (by decide +kernel) Ch171)
              have Kh171 := zFK_fr Ch171 (by decide +kernel) Kh165
              have eh171_111_4 : ri_at h171 111 4 = ri_at h0 111 4 := (ri_frf Ch171 (d := 12) rfl rfl (by decide +kernel)).trans e9_5
              have eh171_111_5 : ri_at h171 111 5 = ri_at h0 111 5 := (ri_frf Ch171 (d := 12) rfl rfl (by decide +kernel)).trans e9_6
              have eh171_111_11 : ri_at h171 111 11 = ri_at h165 111 11 := ri_frf Ch171 (d := 12) rfl rfl (by decide +kernel)
              obtain ⟨yah171, ybh171, ych171, ydh171, -⟩ := id Zh171
              have zlh171 := zx_le (t := t) (n := n) (p := (zx t n q9)) (by omega)
              clear yah165 ybh165 ych165 ydh165
              refine ex_ic oq_X12_lineRead_118 (m := 1) (by decide) (fun x172 hx172 => ?_)
              have zs : zSR h165 (gt, lt, kn, gl, wl ++ [v9], cl) := ⟨(ri_frf Ch165 (k := 111) (i := 20) rfl rfl (by decide +kernel)).trans s1, fun i hi => (s2 i hi).trans (ri_frr Ch165 (k := 117) (d := 56) rfl rfl (by decide +kernel)).symm, (ri_frf Ch165 (k := 111) (i := 19) rfl rfl (by decide +kernel)).trans s3, (ri_frf Ch165 (k := 111) (i := 40) rfl rfl (by decide +kernel)).trans s4, (ri_frf Ch165 (k := 111) (i := 16) rfl rfl (by decide +kernel)).trans s5, (by have := e9_7.1.2.2; show _ = (((wl ++ [_]).length : Nat) : Int); rw [List.length_append, List.length_singleton]; omega), (ri_frf Ch165 (k := 111) (i := 18) rfl rfl (by decide +kernel)).trans s7, zNm_eq s8 (fun i => ri_frr Ch165 (k := 118) (d := 57) rfl rfl (by decide +kernel)), (zNm_app e9_7.1.1 e9_7.1.2.1), zNm_eq s10 (fun i => ri_frr Ch165 (k := 123) (d := 62) rfl rfl (by decide +kernel))⟩
              exact ex_retb oq_X12_lineRead_119 rfl (by omega) (by omega) (hQ x172 h171 Th171 Fh171 Kh171 (.inl ⟨(gt, lt, kn, gl, wl ++ [v9], cl), _, (by unfold zln; rw [if_pos (by omega), zb2_r (show zl0 t n (gt, lt, kn, gl, wl, cl) p = .inr ((gt, lt, kn, gl, wl ++ [v9], cl), q9) from by unfold zl0; rw [if_neg (by omega), if_neg (by omega), if_neg (by omega), if_pos (by omega), zb2_r e9_1]), if_pos (by omega)]), by omega, by omega, Zh171, by omega, by omega, ⟨zSR_fr Ch171 zs (by decide +kernel), zRW_eq (zRW_w hd (by omega) (zRE_fr Ch165 (by decide +kernel)) e9_7.2) (zRE_fr Ch171 (by decide +kernel))⟩⟩))
            · replace c170 : x169.toInt = 0 := by omega
              replace dx169 := flag_n dx169 c170
              refine ex_al oq_X12_lineRead_108 gL166_0 ?_
              refine ex_ic oq_X12_lineRead_109 (m := 1) (by decide) (fun x173 hx173 => ?_)
              refine ex_cv oq_X12_lineRead_110 (by decide) Th165 (k := 111) (d := 12) (as := [cv_i x173]) (stk := []) rfl rfl rfl rfl rfl rfl ⟨rfl, rfl⟩ (R := fun o => ∃ (x : Int32) (hb : cv_H), o = (some (cv_i x), hb) ∧ cw_T G hb ∧ cw_Fr cw_Ds cw_sh kk_X12_wrong.2.2.2.2.2.1 h165 hb ∧ x.toInt = 0 ∧ ri_at hb 111 4 = x173.toInt ∧ ri_at hb 111 5 = ri_at h165 111 10) (rt_wrong Th165 x173 (fun x hb b1 b2 b3 b4 b5 => ⟨x, hb, rfl, b1, b2, b3, b4, b5⟩)) (fun o ho => ?_)
              obtain ⟨x174, h175, rfl, Th175, Ch175, zh175, fh175, ph175⟩ := ho
              show cw_X _ _ _ _ _ [cv_i x174] h175
              have Fh175 : cw_Fr cw_Ds cw_sh mk_lz h0 h175 := cw_Fr_tr Fh165 (cw_Fr_mono (by decide +kernel) Ch175)
              have Kh175 := zFK_fr Ch175 (by decide +kernel) Kh165
              exact ex_retb oq_X12_lineRead_113 rfl (by omega) (by omega) (hQ x174 h175 Th175 Fh175 Kh175 (.inr ⟨_, _, (by unfold zln; rw [if_pos (by omega), zb2_r (show zl0 t n (gt, lt, kn, gl, wl, cl) p = .inr ((gt, lt, kn, gl, wl ++ [v9], cl), q9) from by unfold zl0; rw [if_neg (by omega), if_neg (by omega), if_neg (by omega), if_pos (by omega), zb2_r e9_1]), if_neg (by omega)]), by omega, by omega, by omega, by decide⟩))
          · replace c167 : x164.toInt = 0 := by omega
            obtain ⟨fc10, fa10, e10_1, ax164, e10_3, e10_4, e10_5⟩ := zRe_no dx164 c167
            clear dx164
            refine ex_ic oq_X12_lineRead_97 (m := 0) (by decide) (fun x176 hx176 => ?_)
            exact ex_retb oq_X12_lineRead_98 rfl (by omega) (by omega) (hQ x176 h165 Th165 Fh165 Kh165 (.inr ⟨_, _, (by unfold zln; rw [if_pos (by omega), zb2_l (show zl0 t n (gt, lt, kn, gl, wl, cl) p = _ from by unfold zl0; rw [if_neg (by omega), if_neg (by omega), if_neg (by omega), if_pos (by omega), zb2_l e10_1])]), by omega, by omega, by omega, by omega⟩))
        | i + 4, hi, _ => exact absurd hi (by show ¬ i + 4 < 4; omega)
    · refine ex_al oq_X12_lineRead_16 rfl ?_
      refine ex_ic oq_X12_lineRead_17 (m := 1) (by decide) (fun x177 hx177 => ?_)
      refine ex_cv oq_X12_lineRead_18 (by decide) hT (k := 111) (d := 12) (as := [cv_i x177]) (stk := []) rfl rfl rfl rfl rfl rfl ⟨rfl, rfl⟩ (R := fun o => ∃ (x : Int32) (hb : cv_H), o = (some (cv_i x), hb) ∧ cw_T G hb ∧ cw_Fr cw_Ds cw_sh kk_X12_wrong.2.2.2.2.2.1 h0 hb ∧ x.toInt = 0 ∧ ri_at hb 111 4 = x177.toInt ∧ ri_at hb 111 5 = ri_at h0 111 10) (rt_wrong hT x177 (fun x hb b1 b2 b3 b4 b5 => ⟨x, hb, rfl, b1, b2, b3, b4, b5⟩)) (fun o ho => ?_)
      obtain ⟨x178, h179, rfl, Th179, Ch179, zh179, fh179, ph179⟩ := ho
      show cw_X _ _ _ _ _ [cv_i x178] h179
      have Fh179 : cw_Fr cw_Ds cw_sh mk_lz h0 h179 := cw_Fr_tr Fh0 (cw_Fr_mono (by decide +kernel) Ch179)
      have Kh179 := zFK_fr Ch179 (by decide +kernel) Kh0
      exact ex_retb oq_X12_lineRead_21 rfl (by omega) (by omega) (hQ x178 h179 Th179 Fh179 Kh179 (.inr ⟨_, _, (by unfold zln; rw [if_neg (by omega)]), by omega, by omega, by omega, by decide⟩))
end TZ
end
section
/-! ===== rows that are laid; a gate's start: the reference ===== -/
section SPM
variable {G : Int} {X : cv_X} {Q : cv_O → Prop}
theorem oq_X12_begins_0 : cw_ho 201 0 (.iconst 0) 1 0 0 0 := rfl
theorem oq_X12_begins_1 : cw_ho 201 1 (.istore_n 2) 1 0 0 0 := rfl
theorem oq_X12_begins_2 : cw_ho 201 2 (.iload_n 2) 1 0 0 0 := rfl
theorem oq_X12_begins_3 : cw_ho 201 3 (.bipush 16) 2 0 0 0 := rfl
theorem oq_X12_begins_5 : cw_ho 201 5 (.if_icmp .ge 16) 3 0 0 0 := rfl
theorem oq_X12_begins_8 : cw_ho 201 8 (.aload_n 0) 1 0 0 0 := rfl
theorem oq_X12_begins_9 : cw_ho 201 9 (.getfield 72) 3 12 45 4 := rfl
theorem oq_X12_begins_12 : cw_ho 201 12 (.iload_n 2) 1 0 0 0 := rfl
theorem oq_X12_begins_13 : cw_ho 201 13 (.iconst 0) 1 0 0 0 := rfl
theorem oq_X12_begins_14 : cw_ho 201 14 (.iastore) 1 0 0 0 := rfl
theorem oq_X12_begins_15 : cw_ho 201 15 (.iinc 2 1) 3 0 0 0 := rfl
theorem oq_X12_begins_18 : cw_ho 201 18 (.goto (-16)) 3 0 0 0 := rfl
theorem oq_X12_begins_21 : cw_ho 201 21 (.aload_n 0) 1 0 0 0 := rfl
theorem oq_X12_begins_22 : cw_ho 201 22 (.getfield 72) 3 12 45 4 := rfl
theorem oq_X12_begins_25 : cw_ho 201 25 (.bipush 6) 2 0 0 0 := rfl
theorem oq_X12_begins_27 : cw_ho 201 27 (.aload_n 0) 1 0 0 0 := rfl
theorem oq_X12_begins_28 : cw_ho 201 28 (.getfield 36) 3 12 26 4 := rfl
theorem oq_X12_begins_31 : cw_ho 201 31 (.bipush 16) 2 0 0 0 := rfl
theorem oq_X12_begins_33 : cw_ho 201 33 (.iload_n 1) 1 0 0 0 := rfl
theorem oq_X12_begins_34 : cw_ho 201 34 (.imul) 1 0 0 0 := rfl
theorem oq_X12_begins_35 : cw_ho 201 35 (.bipush 7) 2 0 0 0 := rfl
theorem oq_X12_begins_37 : cw_ho 201 37 (.iadd) 1 0 0 0 := rfl
theorem oq_X12_begins_38 : cw_ho 201 38 (.iaload) 1 0 0 0 := rfl
theorem oq_X12_begins_39 : cw_ho 201 39 (.iastore) 1 0 0 0 := rfl
theorem oq_X12_begins_40 : cw_ho 201 40 (.aload_n 0) 1 0 0 0 := rfl
theorem oq_X12_begins_41 : cw_ho 201 41 (.getfield 72) 3 12 45 4 := rfl
theorem oq_X12_begins_44 : cw_ho 201 44 (.bipush 7) 2 0 0 0 := rfl
theorem oq_X12_begins_46 : cw_ho 201 46 (.aload_n 0) 1 0 0 0 := rfl
theorem oq_X12_begins_47 : cw_ho 201 47 (.getfield 36) 3 12 26 4 := rfl
theorem oq_X12_begins_50 : cw_ho 201 50 (.bipush 16) 2 0 0 0 := rfl
theorem oq_X12_begins_52 : cw_ho 201 52 (.iload_n 1) 1 0 0 0 := rfl
theorem oq_X12_begins_53 : cw_ho 201 53 (.imul) 1 0 0 0 := rfl
theorem oq_X12_begins_54 : cw_ho 201 54 (.bipush 9) 2 0 0 0 := rfl
theorem oq_X12_begins_56 : cw_ho 201 56 (.iadd) 1 0 0 0 := rfl
theorem oq_X12_begins_57 : cw_ho 201 57 (.iaload) 1 0 0 0 := rfl
theorem oq_X12_begins_58 : cw_ho 201 58 (.iastore) 1 0 0 0 := rfl
theorem oq_X12_begins_59 : cw_ho 201 59 (.aload_n 0) 1 0 0 0 := rfl
theorem oq_X12_begins_60 : cw_ho 201 60 (.getfield 72) 3 12 45 4 := rfl
theorem oq_X12_begins_63 : cw_ho 201 63 (.bipush 8) 2 0 0 0 := rfl
theorem oq_X12_begins_65 : cw_ho 201 65 (.aload_n 0) 1 0 0 0 := rfl
theorem oq_X12_begins_66 : cw_ho 201 66 (.getfield 36) 3 12 26 4 := rfl
theorem oq_X12_begins_69 : cw_ho 201 69 (.bipush 16) 2 0 0 0 := rfl
theorem oq_X12_begins_71 : cw_ho 201 71 (.iload_n 1) 1 0 0 0 := rfl
theorem oq_X12_begins_72 : cw_ho 201 72 (.imul) 1 0 0 0 := rfl
theorem oq_X12_begins_73 : cw_ho 201 73 (.bipush 12) 2 0 0 0 := rfl
theorem oq_X12_begins_75 : cw_ho 201 75 (.iadd) 1 0 0 0 := rfl
theorem oq_X12_begins_76 : cw_ho 201 76 (.iaload) 1 0 0 0 := rfl
theorem oq_X12_begins_77 : cw_ho 201 77 (.iastore) 1 0 0 0 := rfl
theorem oq_X12_begins_78 : cw_ho 201 78 (.aload_n 0) 1 0 0 0 := rfl
theorem oq_X12_begins_79 : cw_ho 201 79 (.getfield 72) 3 12 45 4 := rfl
theorem oq_X12_begins_82 : cw_ho 201 82 (.bipush 10) 2 0 0 0 := rfl
theorem oq_X12_begins_84 : cw_ho 201 84 (.aload_n 0) 1 0 0 0 := rfl
theorem oq_X12_begins_85 : cw_ho 201 85 (.getfield 36) 3 12 26 4 := rfl
theorem oq_X12_begins_88 : cw_ho 201 88 (.bipush 16) 2 0 0 0 := rfl
theorem oq_X12_begins_90 : cw_ho 201 90 (.iload_n 1) 1 0 0 0 := rfl
theorem oq_X12_begins_91 : cw_ho 201 91 (.imul) 1 0 0 0 := rfl
theorem oq_X12_begins_92 : cw_ho 201 92 (.bipush 14) 2 0 0 0 := rfl
theorem oq_X12_begins_94 : cw_ho 201 94 (.iadd) 1 0 0 0 := rfl
theorem oq_X12_begins_95 : cw_ho 201 95 (.iaload) 1 0 0 0 := rfl
theorem oq_X12_begins_96 : cw_ho 201 96 (.iastore) 1 0 0 0 := rfl
theorem oq_X12_begins_97 : cw_ho 201 97 (.return_) 1 0 0 0 := rfl
theorem ly_2 {R1 d1 m1 p1 R2 d2 m2 p2 : Nat} {rs1 rs2 : List (Int × Int)} {h0 : cv_H} (hk1 : cw_sh[R1]? = some d1) (hD1 : cw_Ds[d1]? = some (.inl (0, m1, p1, rs1))) (hk2 : cw_sh[R2]? = some d2) (hD2 : cw_Ds[d2]? = some (.inl (0, m2, p2, rs2))) (hne : R1 ≠ R2) {A B : Int32} {a b : Nat} (hA : A.toInt = a) (hB : B.toInt = b) (ha : a + 16 ≤ m1) (hb : b + 16 ≤ m2) (hm1 : m1 ≤ 10000) (hm2 : m2 ≤ 10000) (hfree : ∀ j, a ≤ j → j < a + 16 → ∀ r, rs1[j % p1]? = some r → r = (-2147483648, 2147483647))
    (hfin : ∀ h, cw_T G h → cp_F R1 h0 h → (∀ i, i < 16 → ri_at h R1 (a + i) = ri_at h0 R2 (b + i)) → (∀ i, (i < a ∨ a + 16 ≤ i) → ri_at h R1 i = ri_at h0 R1 i) → Q (none, h)) : ∀ (M : Nat) (k : Int32) (kn : Nat) (h : cv_H), k.toInt = kn → kn ≤ 16 → 16 - kn ≤ M → cw_T G h → cp_F R1 h0 h → (∀ i, i < kn → ri_at h R1 (a + i) = ri_at h0 R2 (b + i)) → (∀ i, (i < a ∨ a + kn ≤ i) → ri_at h R1 i = ri_at h0 R1 i) → ∀ L : cv_L, cv_get L 0 = some (cv_r R1) → cv_get L 1 = some (cv_i A) → cv_get L 2 = some (cv_r R2) → cv_get L 3 = some (cv_i B) → cv_get L 4 = some (cv_i k) → cw_X X 200 Q 3 L [] h := by
  intro M
  induction M with
  | zero =>
    intro k kn h e1 e2 e3 hT hF a1 a2 L q0 q1 q2 q3 q4
    refine ex_ilw oq_X12_lays_3 q4 ?_
    refine ex_bi oq_X12_lays_5 (m := 16) (by decide) (fun x0 hx0 => ?_)
    refine ex_if oq_X12_lays_7 (t := 28) rfl rfl (fun (c1 : x0.toInt ≤ k.toInt) => ?_) (fun (c1 : ¬ (x0.toInt ≤ k.toInt)) => ?_)
    · have ek : kn = 16 := by omega
      subst ek
      exact ex_retv oq_X12_lays_28 rfl (hfin h hT hF a1 a2)
    · exfalso; omega
  | succ M ih =>
    intro k kn h e1 e2 e3 hT hF a1 a2 L q0 q1 q2 q3 q4
    refine ex_ilw oq_X12_lays_3 q4 ?_
    refine ex_bi oq_X12_lays_5 (m := 16) (by decide) (fun x0 hx0 => ?_)
    refine ex_if oq_X12_lays_7 (t := 28) rfl rfl (fun (c1 : x0.toInt ≤ k.toInt) => ?_) (fun (c1 : ¬ (x0.toInt ≤ k.toInt)) => ?_)
    · have ek : kn = 16 := by omega
      subst ek
      exact ex_retv oq_X12_lays_28 rfl (hfin h hT hF a1 a2)
    · refine ex_al oq_X12_lays_10 q0 ?_
      refine ex_il oq_X12_lays_11 q1 ?_
      refine ex_ilw oq_X12_lays_12 q4 ?_
      refine ex_add oq_X12_lays_14 (by omega) (fun x1 hx1 => ?_)
      refine ex_al oq_X12_lays_15 q2 ?_
      refine ex_il oq_X12_lays_16 q3 ?_
      refine ex_ilw oq_X12_lays_17 q4 ?_
      refine ex_add oq_X12_lays_19 (by omega) (fun x2 hx2 => ?_)
      refine ex_iap oq_X12_lays_20 hT hk2 hD2 (j := b + kn) (by omega) (by omega) (fun x3 hx3 => ?_)
      refine ex_iw oq_X12_lays_21 hT hk1 hD1 (j := a + kn) (by omega) (by omega) (fun r hr => ?_) (fun h1 hT1 w1 => ?_)
      · rw [hfree _ (by omega) (by omega) r hr]
        exact cw_i32 x3
      · refine ex_incA oq_X12_lays_22 (v := k) (m := 1) q4 (by decide) (by omega) (fun L2 x4 hx4 g2 k2 => ?_)
        refine ex_go oq_X12_lays_25 (t := 3) rfl rfl ?_
        refine ih x4 (kn + 1) h1 (by omega) (by omega) (by omega) hT1 (fun k' hk' => (w1.2.2 k' hk').trans (hF k' hk')) (fun i hi => ?_) (fun i hi => ?_) L2 (k2 0 _ (by decide) (fun q => absurd q (by decide)) q0) (k2 1 _ (by decide) (fun q => absurd q (by decide)) q1) (k2 2 _ (by decide) (fun q => absurd q (by decide)) q2) (k2 3 _ (by decide) (fun _ => rfl) q3) g2
        · by_cases e : i = kn
          · subst e
            rw [ri_self w1, ← hx3]
            exact cp_ri hF (fun q => hne q.symm)
          · rw [ri_ne w1 (.inr (by omega))]
            exact a1 i (by omega)
        · rw [ri_ne w1 (.inr (by omega))]
          exact a2 i (by omega)
theorem rt_lays {R1 d1 m1 p1 R2 d2 m2 p2 : Nat} {rs1 rs2 : List (Int × Int)} {h0 : cv_H} (hT : cw_T G h0) (hk1 : cw_sh[R1]? = some d1) (hD1 : cw_Ds[d1]? = some (.inl (0, m1, p1, rs1))) (hk2 : cw_sh[R2]? = some d2) (hD2 : cw_Ds[d2]? = some (.inl (0, m2, p2, rs2))) (hne : R1 ≠ R2) {A B : Int32} {a b : Nat} (hA : A.toInt = a) (hB : B.toInt = b) (ha : a + 16 ≤ m1) (hb : b + 16 ≤ m2) (hm1 : m1 ≤ 10000) (hm2 : m2 ≤ 10000) (hfree : ∀ j, a ≤ j → j < a + 16 → ∀ r, rs1[j % p1]? = some r → r = (-2147483648, 2147483647))
    (hfin : ∀ h, cw_T G h → cp_F R1 h0 h → (∀ i, i < 16 → ri_at h R1 (a + i) = ri_at h0 R2 (b + i)) → (∀ i, (i < a ∨ a + 16 ≤ i) → ri_at h R1 i = ri_at h0 R1 i) → Q (none, h)) : cw_X X 200 Q 0 (cv_ent 0 [cv_r R1, cv_i A, cv_r R2, cv_i B]) [] h0 := by
  refine ex_ic oq_X12_lays_0 (m := 0) (by decide) (fun x1 hx1 => ?_)
  refine ex_iswA oq_X12_lays_1 (fun L2 g2 k2 => ?_)
  exact ly_2 hk1 hD1 hk2 hD2 hne hA hB ha hb hm1 hm2 hfree hfin 16 x1 0 h0 hx1 (by omega) (by omega) hT (fun _ _ => rfl) (fun i hi => absurd hi (by omega)) (fun i _ => rfl) L2 (k2 0 _ (by decide) (fun q => absurd q (by decide)) rfl) (k2 1 _ (by decide) (fun q => absurd q (by decide)) rfl) (k2 2 _ (by decide) (fun q => absurd q (by decide)) rfl) (k2 3 _ (by decide) (fun _ => rfl) rfl) g2
theorem free1 {j : Nat} {r : Int × Int} (h : ([(-2147483648, 2147483647)] : List (Int × Int))[j % 1]? = some r) : r = (-2147483648, 2147483647) := by
  rw [Nat.mod_one] at h
  cases h
  rfl
/-- a gate's start, of its numbers -/
def zBg (T : Nat → Int) (k : Nat) : Int := if k = 6 then T 7 else if k = 7 then T 9 else if k = 8 then T 12 else if k = 10 then T 14 else 0
theorem bg_2 {g : Int32} {h0 : cv_H} (kk : ∀ h L, cw_T G h → cp_F 131 h0 h → (∀ i, i < 16 → ri_at h 131 i = 0) → cv_get L 0 = some (cv_r 111) → cv_get L 1 = some (cv_i g) → cw_X X 201 Q 21 L [] h) : ∀ (M : Nat) (k : Int32) (kn : Nat) (h : cv_H), k.toInt = kn → kn ≤ 16 → 16 - kn ≤ M → cw_T G h → cp_F 131 h0 h → (∀ i, i < kn → ri_at h 131 i = 0) → ∀ L : cv_L, cv_get L 0 = some (cv_r 111) → cv_get L 1 = some (cv_i g) → cv_get L 2 = some (cv_i k) → cw_X X 201 Q 2 L [] h := by
  intro M
  induction M with
  | zero =>
    intro k kn h e1 e2 e3 hT hF a1 L q0 q1 q2
    refine ex_il oq_X12_begins_2 q2 ?_
    refine ex_bi oq_X12_begins_3 (m := 16) (by decide) (fun x0 hx0 => ?_)
    refine ex_if oq_X12_begins_5 (t := 21) rfl rfl (fun (c1 : x0.toInt ≤ k.toInt) => ?_) (fun (c1 : ¬ (x0.toInt ≤ k.toInt)) => ?_)
    · have ek : kn = 16 := by omega
      subst ek
      exact kk h L hT hF a1 q0 q1
    · exfalso; omega
  | succ M ih =>
    intro k kn h e1 e2 e3 hT hF a1 L q0 q1 q2
    refine ex_il oq_X12_begins_2 q2 ?_
    refine ex_bi oq_X12_begins_3 (m := 16) (by decide) (fun x0 hx0 => ?_)
    refine ex_if oq_X12_begins_5 (t := 21) rfl rfl (fun (c1 : x0.toInt ≤ k.toInt) => ?_) (fun (c1 : ¬ (x0.toInt ≤ k.toInt)) => ?_)
    · have ek : kn = 16 := by omega
      subst ek
      exact kk h L hT hF a1 q0 q1
    · refine ex_al oq_X12_begins_8 q0 ?_
      refine ex_gf oq_X12_begins_9 hT (k := 111) (d := 12) rfl rfl (fr_now hT) ?_
      refine ex_il oq_X12_begins_12 q2 ?_
      refine ex_ic oq_X12_begins_13 (m := 0) (by decide) (fun x1 hx1 => ?_)
      refine ex_iw1 oq_X12_begins_14 hT (k := 131) (d := 70) (j := kn) rfl rfl (by omega) (by omega) ⟨(cw_i32 _).1, (cw_i32 _).2⟩ (fun h1 hT1 w1 => ?_)
      refine ex_incA oq_X12_begins_15 (v := k) (m := 1) q2 (by decide) (by omega) (fun L2 x4 hx4 g2 k2 => ?_)
      refine ex_go oq_X12_begins_18 (t := 2) rfl rfl ?_
      refine ih x4 (kn + 1) h1 (by omega) (by omega) (by omega) hT1 (fun k' hk' => (w1.2.2 k' hk').trans (hF k' hk')) (fun i hi => ?_) L2 (k2 0 _ (by decide) (fun q => absurd q (by decide)) q0) (k2 1 _ (by decide) (fun _ => rfl) q1) g2
      by_cases e : i = kn
      · subst e
        rw [ri_self w1, hx1]
      · rw [ri_ne w1 (.inr (by omega))]
        exact a1 i (by omega)
theorem rt_begins {h0 : cv_H} (hT0 : cw_T G h0) {g : Int32} {gn : Nat} (hg : g.toInt = gn) (hg4 : gn < 4) (hQ : ∀ h', cw_T G h' → cp_F 131 h0 h' → (∀ k, k < 16 → ri_at h' 131 k = zBg (fun i => ri_at h0 119 (16 * gn + i)) k) → Q (none, h')) : cw_X X 201 Q 0 (cv_ent 0 [cv_r 111, cv_i g]) [] h0 := by
  refine ex_ic oq_X12_begins_0 (m := 0) (by decide) (fun x1 hx1 => ?_)
  refine ex_isA oq_X12_begins_1 (fun L2 g2 k2 => ?_)
  refine bg_2 (h0 := h0) (g := g) ?_ 16 x1 0 h0 hx1 (by omega) (by omega) hT0 (fun _ _ => rfl) (fun i hi => absurd hi (by omega)) L2 (k2 0 _ (by decide) (fun q => absurd q (by decide)) rfl) (k2 1 _ (by decide) (fun _ => rfl) rfl) g2
  intro h L hT hF hz q0 q1
  refine ex_al oq_X12_begins_21 q0 ?_
  refine ex_gf oq_X12_begins_22 hT (k := 111) (d := 12) rfl rfl (fr_now hT) ?_
  refine ex_bi oq_X12_begins_25 (m := 6) (by decide) (fun i0 hi0 => ?_)
  refine ex_al oq_X12_begins_27 q0 ?_
  refine ex_gf oq_X12_begins_28 hT (k := 111) (d := 12) rfl rfl (fr_gateHas hT) ?_
  refine ex_bi oq_X12_begins_31 (m := 16) (by decide) (fun a0 ha0 => ?_)
  refine ex_il oq_X12_begins_33 q1 ?_
  refine ex_mul oq_X12_begins_34 (m := 16 * g.toInt) (by rw [ha0]) (by omega) (fun b0 hb0 => ?_)
  refine ex_bi oq_X12_begins_35 (m := 7) (by decide) (fun c0 hc0 => ?_)
  refine ex_add oq_X12_begins_37 (by omega) (fun d0 hd0 => ?_)
  refine ex_iap oq_X12_begins_38 hT (k := 119) (d := 58) (j := 16 * gn + 7) rfl rfl (by omega) (by omega) (fun x0 hx0 => ?_)
  refine ex_iw1 oq_X12_begins_39 hT (k := 131) (d := 70) (j := 6) rfl rfl (by omega) (by omega) ⟨(cw_i32 _).1, (cw_i32 _).2⟩ (fun h1 hT1 w1 => ?_)
  have v0 : x0.toInt = ri_at h0 119 (16 * gn + 7) := hx0.symm.trans (cp_ri hF (by decide))
  refine ex_al oq_X12_begins_40 q0 ?_
  refine ex_gf oq_X12_begins_41 hT1 (k := 111) (d := 12) rfl rfl (fr_now hT1) ?_
  refine ex_bi oq_X12_begins_44 (m := 7) (by decide) (fun i1 hi1 => ?_)
  refine ex_al oq_X12_begins_46 q0 ?_
  refine ex_gf oq_X12_begins_47 hT1 (k := 111) (d := 12) rfl rfl (fr_gateHas hT1) ?_
  refine ex_bi oq_X12_begins_50 (m := 16) (by decide) (fun a1 ha1 => ?_)
  refine ex_il oq_X12_begins_52 q1 ?_
  refine ex_mul oq_X12_begins_53 (m := 16 * g.toInt) (by rw [ha1]) (by omega) (fun b1 hb1 => ?_)
  refine ex_bi oq_X12_begins_54 (m := 9) (by decide) (fun c1 hc1 => ?_)
  refine ex_add oq_X12_begins_56 (by omega) (fun d1 hd1 => ?_)
  refine ex_iap oq_X12_begins_57 hT1 (k := 119) (d := 58) (j := 16 * gn + 9) rfl rfl (by omega) (by omega) (fun x1 hx1 => ?_)
  refine ex_iw1 oq_X12_begins_58 hT1 (k := 131) (d := 70) (j := 7) rfl rfl (by omega) (by omega) ⟨(cw_i32 _).1, (cw_i32 _).2⟩ (fun h2 hT2 w2 => ?_)
  have v1 : x1.toInt = ri_at h0 119 (16 * gn + 9) := hx1.symm.trans ((ri_ne w1 (.inl (by decide))).trans (cp_ri hF (by decide)))
  refine ex_al oq_X12_begins_59 q0 ?_
  refine ex_gf oq_X12_begins_60 hT2 (k := 111) (d := 12) rfl rfl (fr_now hT2) ?_
  refine ex_bi oq_X12_begins_63 (m := 8) (by decide) (fun i2 hi2 => ?_)
  refine ex_al oq_X12_begins_65 q0 ?_
  refine ex_gf oq_X12_begins_66 hT2 (k := 111) (d := 12) rfl rfl (fr_gateHas hT2) ?_
  refine ex_bi oq_X12_begins_69 (m := 16) (by decide) (fun a2 ha2 => ?_)
  refine ex_il oq_X12_begins_71 q1 ?_
  refine ex_mul oq_X12_begins_72 (m := 16 * g.toInt) (by rw [ha2]) (by omega) (fun b2 hb2 => ?_)
  refine ex_bi oq_X12_begins_73 (m := 12) (by decide) (fun c2 hc2 => ?_)
  refine ex_add oq_X12_begins_75 (by omega) (fun d2 hd2 => ?_)
  refine ex_iap oq_X12_begins_76 hT2 (k := 119) (d := 58) (j := 16 * gn + 12) rfl rfl (by omega) (by omega) (fun x2 hx2 => ?_)
  refine ex_iw1 oq_X12_begins_77 hT2 (k := 131) (d := 70) (j := 8) rfl rfl (by omega) (by omega) ⟨(cw_i32 _).1, (cw_i32 _).2⟩ (fun h3 hT3 w3 => ?_)
  have v2 : x2.toInt = ri_at h0 119 (16 * gn + 12) := hx2.symm.trans ((ri_ne w2 (.inl (by decide))).trans ((ri_ne w1 (.inl (by decide))).trans (cp_ri hF (by decide))))
  refine ex_al oq_X12_begins_78 q0 ?_
  refine ex_gf oq_X12_begins_79 hT3 (k := 111) (d := 12) rfl rfl (fr_now hT3) ?_
  refine ex_bi oq_X12_begins_82 (m := 10) (by decide) (fun i3 hi3 => ?_)
  refine ex_al oq_X12_begins_84 q0 ?_
  refine ex_gf oq_X12_begins_85 hT3 (k := 111) (d := 12) rfl rfl (fr_gateHas hT3) ?_
  refine ex_bi oq_X12_begins_88 (m := 16) (by decide) (fun a3 ha3 => ?_)
  refine ex_il oq_X12_begins_90 q1 ?_
  refine ex_mul oq_X12_begins_91 (m := 16 * g.toInt) (by rw [ha3]) (by omega) (fun b3 hb3 => ?_)
  refine ex_bi oq_X12_begins_92 (m := 14) (by decide) (fun c3 hc3 => ?_)
  refine ex_add oq_X12_begins_94 (by omega) (fun d3 hd3 => ?_)
  refine ex_iap oq_X12_begins_95 hT3 (k := 119) (d := 58) (j := 16 * gn + 14) rfl rfl (by omega) (by omega) (fun x3 hx3 => ?_)
  refine ex_iw1 oq_X12_begins_96 hT3 (k := 131) (d := 70) (j := 10) rfl rfl (by omega) (by omega) ⟨(cw_i32 _).1, (cw_i32 _).2⟩ (fun h4 hT4 w4 => ?_)
  have v3 : x3.toInt = ri_at h0 119 (16 * gn + 14) := hx3.symm.trans ((ri_ne w3 (.inl (by decide))).trans ((ri_ne w2 (.inl (by decide))).trans ((ri_ne w1 (.inl (by decide))).trans (cp_ri hF (by decide)))))
  refine ex_retv oq_X12_begins_97 rfl (hQ h4 hT4 (fun k hk => ((w4.2.2 k hk).trans ((w3.2.2 k hk).trans ((w2.2.2 k hk).trans (w1.2.2 k hk)))).trans (hF k hk)) (fun k hk => ?_))
  unfold zBg
  by_cases c10 : k = 10
  · subst c10
    rw [if_neg (by decide), if_neg (by decide), if_neg (by decide), if_pos rfl, ri_self w4]
    exact v3
  rw [ri_ne w4 (.inr c10)]
  by_cases c8 : k = 8
  · subst c8
    rw [if_neg (by decide), if_neg (by decide), if_pos rfl, ri_self w3]
    exact v2
  rw [ri_ne w3 (.inr c8)]
  by_cases c7 : k = 7
  · subst c7
    rw [if_neg (by decide), if_pos rfl, ri_self w2]
    exact v1
  rw [ri_ne w2 (.inr c7)]
  by_cases c6 : k = 6
  · subst c6
    rw [if_pos rfl, ri_self w1]
    exact v0
  rw [ri_ne w1 (.inr c6), if_neg c6, if_neg c7, if_neg c8, if_neg c10]
  exact hz k hk
/-- the gates' states at their start -/
def zSB (h : cv_H) (n : Nat) (T : Nat → Nat → Int) : Prop := ∀ g, g < n → ∀ k, k < 16 → ri_at h 130 (16 * g + k) = zBg (T g) k
theorem kd_2 {h0 : cv_H} (kk : ∀ h L, cw_T G h → (∀ k : Nat, k ≠ 130 → k ≠ 131 → h[k]? = h0[k]?) → zSB h 4 (fun g i => ri_at h0 119 (16 * g + i)) → cv_get L 0 = some (cv_r 111) → cw_X X 173 Q 207 L [] h) : ∀ (M : Nat) (k : Int32) (kn : Nat) (h : cv_H), k.toInt = kn → kn ≤ 4 → 4 - kn ≤ M → cw_T G h → (∀ k : Nat, k ≠ 130 → k ≠ 131 → h[k]? = h0[k]?) → zSB h kn (fun g i => ri_at h0 119 (16 * g + i)) → ∀ L : cv_L, cv_get L 0 = some (cv_r 111) → cv_get L 1 = some (cv_i k) → cw_X X 173 Q 175 L [] h := by
  intro M
  induction M with
  | zero =>
    intro k kn h e1 e2 e3 hT hF a1 L q0 q1
    refine ex_il oq_X12_keepText_175 q1 ?_
    refine ex_ic oq_X12_keepText_176 (m := 4) (by decide) (fun x0 hx0 => ?_)
    refine ex_if oq_X12_keepText_177 (t := 207) rfl rfl (fun (c1 : x0.toInt ≤ k.toInt) => ?_) (fun (c1 : ¬ (x0.toInt ≤ k.toInt)) => ?_)
    · have ek : kn = 4 := by omega
      subst ek
      exact kk h L hT hF a1 q0
    · exfalso; omega
  | succ M ih =>
    intro k kn h e1 e2 e3 hT hF a1 L q0 q1
    refine ex_il oq_X12_keepText_175 q1 ?_
    refine ex_ic oq_X12_keepText_176 (m := 4) (by decide) (fun x0 hx0 => ?_)
    refine ex_if oq_X12_keepText_177 (t := 207) rfl rfl (fun (c1 : x0.toInt ≤ k.toInt) => ?_) (fun (c1 : ¬ (x0.toInt ≤ k.toInt)) => ?_)
    · have ek : kn = 4 := by omega
      subst ek
      exact kk h L hT hF a1 q0
    · refine ex_al oq_X12_keepText_180 q0 ?_
      refine ex_il oq_X12_keepText_181 q1 ?_
      refine ex_cv oq_X12_keepText_182 (by decide) hT (k := 111) (d := 12) (as := [cv_i k]) (stk := []) rfl rfl rfl rfl rfl rfl ⟨rfl, rfl⟩ (R := fun o => ∃ hb : cv_H, o = (none, hb) ∧ cw_T G hb ∧ cp_F 131 h hb ∧ ∀ i, i < 16 → ri_at hb 131 i = zBg (fun i => ri_at h 119 (16 * kn + i)) i) (rt_begins hT e1 (by omega) (fun hb b1 b2 b3 => ⟨hb, rfl, b1, b2, b3⟩)) (fun o ho => ?_)
      obtain ⟨h1, rfl, T1, F1, B1⟩ := ho
      show cw_X _ _ _ _ _ [] h1
      refine ex_al oq_X12_keepText_185 q0 ?_
      refine ex_gf oq_X12_keepText_186 T1 (k := 111) (d := 12) rfl rfl (fr_state T1) ?_
      refine ex_bi oq_X12_keepText_189 (m := 16) (by decide) (fun x2 hx2 => ?_)
      refine ex_il oq_X12_keepText_191 q1 ?_
      refine ex_mul oq_X12_keepText_192 (m := 16 * k.toInt) (by rw [hx2]) (by omega) (fun x3 hx3 => ?_)
      refine ex_al oq_X12_keepText_193 q0 ?_
      refine ex_gf oq_X12_keepText_194 T1 (k := 111) (d := 12) rfl rfl (fr_now T1) ?_
      refine ex_ic oq_X12_keepText_197 (m := 0) (by decide) (fun x4 hx4 => ?_)
      refine ex_cs oq_X12_keepText_198 (by decide) (as := [cv_r 130, cv_i x3, cv_r 131, cv_i x4]) (stk := []) rfl rfl rfl ⟨rfl, rfl⟩ (R := fun o => ∃ hb : cv_H, o = (none, hb) ∧ cw_T G hb ∧ cp_F 130 h1 hb ∧ (∀ i, i < 16 → ri_at hb 130 (16 * kn + i) = ri_at h1 131 (0 + i)) ∧ ∀ i, (i < 16 * kn ∨ 16 * kn + 16 ≤ i) → ri_at hb 130 i = ri_at h1 130 i) (rt_lays T1 (d1 := 69) (d2 := 70) rfl rfl rfl rfl (by decide) (by omega) (by omega) (by omega) (by omega) (by decide) (by decide) (fun _ _ _ _ hr => free1 hr) (fun hb b1 b2 b3 b4 => ⟨hb, rfl, b1, b2, b3, b4⟩)) (fun o ho => ?_)
      obtain ⟨h2, rfl, T2, F2, B2, N2⟩ := ho
      show cw_X _ _ _ _ _ [] h2
      refine ex_incA oq_X12_keepText_201 (v := k) (m := 1) q1 (by decide) (by omega) (fun L2 x5 hx5 g2 k2 => ?_)
      refine ex_go oq_X12_keepText_204 (t := 175) rfl rfl ?_
      refine ih x5 (kn + 1) h2 (by omega) (by omega) (by omega) T2 (fun k' q130 q131 => (F2 k' q130).trans ((F1 k' q131).trans (hF k' q130 q131))) (fun g hg j hj => ?_) L2 (k2 0 _ (by decide) (fun _ => rfl) q0) g2
      by_cases e : g = kn
      · subst e
        rw [B2 j hj, Nat.zero_add, B1 j hj]
        have ee : (fun i => ri_at h 119 (16 * g + i)) = fun i => ri_at h0 119 (16 * g + i) := by
          funext i
          unfold ri_at cw_at
          rw [hF 119 (by decide) (by decide)]
        rw [ee]
      · rw [N2 _ (by omega), cp_ri F1 (by decide)]
        exact a1 g (by omega) j hj
end SPM
end
