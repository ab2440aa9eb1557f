/-! ===== what lines tell, the class: causes, works ===== -/
theorem zCr_r {t : Nat → Int} {n q : Nat} {h : cv_H} {x : Int32} {v : Int} (d : zCr t n h x (.inr (v, q))) : x.toInt = v ∧ zCs t n (.inr q) h := by
  rcases d with ⟨v', q', e, e2, e3⟩ | ⟨e, e1, -⟩
  · cases e; exact ⟨e2, e3⟩
  · cases e1
theorem zwk_1 {k w : Int} (h : 0 ≤ zwk k w) : k = 1 := by
  unfold zwk at h
  by_cases c : k = 1
  · exact c
  · rw [if_neg c] at h; omega
section TZ
variable {G : Int} {X : cv_X} {Q : cv_O → Prop} {t : Nat → Int}
set_option maxHeartbeats 8000000 in
theorem ct_causeD {h0 : cv_H} {n p : Nat} (ht : ∀ i, t i = ri_at h0 1 i % 256) (hwd : ∀ i, i < 34 → ri_at h0 52 i = tz_wc.getD i 0) (hn9 : n ≤ 900) (hT : cw_T G h0) {b : Nat} (hb : b = 2 ∨ b = 26) (hpl : zPL b h0) (hS : zCs t n (.inr p) h0) {l : List Int} (hc : ri_at h0 b 19 = l.length) (hlm : l.length < 6) (hl : zNm h0 (b + 12) 0 l) {nm w k : Int} {p1 p2 p3 : Nat} (E1 : zm t n l (zx t n p) = .inr (nm, p1)) (E2 : zn t n 1 99 p1 = .inr (w, p2)) (E3 : zk t n p2 = 1 ∧ 5 ≤ zw t n p2 ∧ zw t n p2 ≤ 7) (E4 : zn t n 1 999 (zx t n p2) = .inr (k, p3)) {aw ak an : List Int} (ew : aw.length = l.length) (ek : ak.length = l.length) (en : an.length = l.length) (haw : zNm h0 (b + 13) 0 aw) (hak : zNm h0 (b + 14) 0 ak) (han : zNm h0 (b + 15) 0 an)
    (hQ : ∀ h', cw_T G h' → cw_Fr cw_Ds cw_sh kk_X5_readCause.2.2.2.2.2.1 h0 h' → zCs t n (.inr p3) h' → ri_at h' b 19 = l.length + 1 → zNm h' (b + 12) 0 (l ++ [nm]) → zNm h' (b + 13) 0 (aw ++ [w]) → zNm h' (b + 14) 0 (ak ++ [zw t n p2 - 5]) → zNm h' (b + 15) 0 (an ++ [k]) → Q (none, h')) : cw_X X 74 Q 0 (cv_ent 0 [cv_r 50]) [] h0 := by
  have Fh0 : cw_Fr cw_Ds cw_sh kk_X5_readCause.2.2.2.2.2.1 h0 h0 := cw_Fr_refl
  have hA : ∀ h, cw_Fr cw_Ds cw_sh kk_X5_readCause.2.2.2.2.2.1 h0 h → ∀ i, ri_at h 1 i = ri_at h0 1 i := fun h F i => ri_frr F (k := 1) (d := 13) rfl rfl (by decide +kernel)
  have hB : ∀ h, cw_Fr cw_Ds cw_sh kk_X5_readCause.2.2.2.2.2.1 h0 h → ∀ i, ri_at h 52 i = ri_at h0 52 i := fun h F i => ri_frr F (k := 52) (d := 43) rfl rfl (by decide +kernel)
  have hPL : ∀ h, cw_Fr cw_Ds cw_sh kk_X5_readCause.2.2.2.2.2.1 h0 h → zPL b h := fun h F => zPL_fr hb F (by decide +kernel) hpl
  have hb4 : cw_sh[b]? = some 4 := by rcases hb with rfl | rfl <;> rfl
  have hkb1 : cw_sh[b + 1]? = some 28 := by rcases hb with rfl | rfl <;> rfl
  have hkb2 : cw_sh[b + 2]? = some 29 := by rcases hb with rfl | rfl <;> rfl
  have hkb3 : cw_sh[b + 3]? = some 30 := by rcases hb with rfl | rfl <;> rfl
  have hkb4 : cw_sh[b + 4]? = some 31 := by rcases hb with rfl | rfl <;> rfl
  have hkb5 : cw_sh[b + 5]? = some 32 := by rcases hb with rfl | rfl <;> rfl
  have hkb6 : cw_sh[b + 6]? = some 33 := by rcases hb with rfl | rfl <;> rfl
  have hkb7 : cw_sh[b + 7]? = some 34 := by rcases hb with rfl | rfl <;> rfl
  have hkb8 : cw_sh[b + 8]? = some 35 := by rcases hb with rfl | rfl <;> rfl
  have hkb9 : cw_sh[b + 9]? = some 36 := by rcases hb with rfl | rfl <;> rfl
  have hkb10 : cw_sh[b + 10]? = some 37 := by rcases hb with rfl | rfl <;> rfl
  have hkb11 : cw_sh[b + 11]? = some 38 := by rcases hb with rfl | rfl <;> rfl
  have hkb12 : cw_sh[b + 12]? = some 39 := by rcases hb with rfl | rfl <;> rfl
  have hkb13 : cw_sh[b + 13]? = some 40 := by rcases hb with rfl | rfl <;> rfl
  have hkb14 : cw_sh[b + 14]? = some 41 := by rcases hb with rfl | rfl <;> rfl
  have hkb15 : cw_sh[b + 15]? = some 42 := by rcases hb with rfl | rfl <;> rfl
  refine ex_al oq_X5_readCause_0 rfl ?_
  refine ex_gf oq_X5_readCause_1 hT (k := 50) (d := 5) rfl rfl ((hPL _ Fh0).1) ?_
  obtain ⟨x101, ax101, rx101, lx101, ux101⟩ := ri_fld (k := b) (d := 4) (f := 19) hT hb4 rfl rfl
  try dsimp only at lx101 ux101
  refine ex_gf oq_X5_readCause_4 hT (k := b) (d := 4) hb4 rfl ax101 ?_
  have rx101 := (rx101.symm.trans hc : x101.toInt = (l.length : Int))
  refine ex_isA oq_X5_readCause_7 (fun L102 gL102_1 kL102 => ?_)
  have gL102_0 : cv_get L102 0 = some (cv_r 50) := kL102 0 _ (by decide) (fun _ => rfl) rfl
  refine ex_il oq_X5_readCause_8 gL102_1 ?_
  refine ex_if0 oq_X5_readCause_9 (t := 18) rfl rfl (fun (c103 : x101.toInt < 0) => ?_) (fun (c103 : ¬ (x101.toInt < 0)) => ?_)
  · exfalso; omega
  · refine ex_il oq_X5_readCause_12 gL102_1 ?_
    refine ex_bi oq_X5_readCause_13 (m := 6) (by decide) (fun x104 hx104 => ?_)
    refine ex_if oq_X5_readCause_15 (t := 25) rfl rfl (fun (c105 : x101.toInt < x104.toInt) => ?_) (fun (c105 : ¬ (x101.toInt < x104.toInt)) => ?_)
    · refine ex_al oq_X5_readCause_25 gL102_0 ?_
      refine ex_gf oq_X5_readCause_26 hT (k := 50) (d := 5) rfl rfl (ri_ref (k := 50) (k' := 51) (d := 5) (f := 0) hT rfl rfl rfl (by decide) (ri_uniq (by decide +kernel))) ?_
      refine ex_cv oq_X5_readCause_29 (by decide) hT (k := 51) (d := 6) (as := []) (stk := []) rfl rfl rfl rfl rfl rfl ⟨rfl, rfl⟩ (R := fun o => ∃ hb : cv_H, o = (none, hb) ∧ cw_T G hb ∧ cw_Fr cw_Ds cw_sh kk_X6_step.2.2.2.2.2.1 h0 hb ∧ zCs t n (.inr (zx t n p)) hb) (ct_stepC (t := t) (n := n) (p := p) (fun i => by rw [ht, ← hA _ Fh0]) (fun i hi => by rw [hB _ Fh0]; exact hwd i hi) hn9 hT hS (fun hb b1 b2 b3 => ⟨hb, rfl, b1, b2, b3⟩)) (fun o ho => ?_)
      obtain ⟨h106, rfl, Th106, Ch106, Sh106⟩ := ho
      show cw_X _ _ _ _ _ [] h106
      have Fh106 : cw_Fr cw_Ds cw_sh kk_X5_readCause.2.2.2.2.2.1 h0 h106 := cw_Fr_tr Fh0 (cw_Fr_mono (by decide +kernel) Ch106)
      have eh106_b_19 : ri_at h106 b 19 = (l.length : Int) := (ri_frf Ch106 (k := b) (d := 4) hb4 rfl (by decide +kernel)).trans hc
      obtain ⟨pnh106, yah106, ybh106, ych106, ydh106, yfh106⟩ := zCs_at Sh106
      obtain ⟨kch106, ykh106⟩ : ∃ k, ri_at h106 51 4 = k := ⟨_, rfl⟩
      obtain ⟨vch106, yvh106⟩ : ∃ k, ri_at h106 51 6 = k := ⟨_, rfl⟩
      rw [ykh106, yvh106] at ydh106
      replace ydh106 := zhd_i ydh106
      have zlh106 := zx_le (t := t) (n := n) (p := (zx t n p)) (by omega)
      refine ex_al oq_X5_readCause_32 gL102_0 ?_
      refine ex_gf oq_X5_readCause_33 Th106 (k := 50) (d := 5) rfl rfl ((hPL _ Fh106).1) ?_
      refine ex_gf oq_X5_readCause_36 Th106 (k := b) (d := 4) hb4 rfl ((show cw_at h106 b 15 = some (cv_r (b + 12)) from (hPL _ Fh106).2.1 15 (by decide))) ?_
      refine ex_il oq_X5_readCause_39 gL102_1 ?_
      refine ex_al oq_X5_readCause_40 gL102_0 ?_
      refine ex_al oq_X5_readCause_41 gL102_0 ?_
      refine ex_gf oq_X5_readCause_42 Th106 (k := 50) (d := 5) rfl rfl ((hPL _ Fh106).1) ?_
      refine ex_gf oq_X5_readCause_45 Th106 (k := b) (d := 4) hb4 rfl ((show cw_at h106 b 15 = some (cv_r (b + 12)) from (hPL _ Fh106).2.1 15 (by decide))) ?_
      refine ex_il oq_X5_readCause_48 gL102_1 ?_
      have hlh106 : zNm h106 (b + 12) 0 l := zNm_eq hl (fun i => (ri_frr Ch106 (k := (b + 12)) (d := 39) hkb12 rfl (by decide +kernel)))
      refine ex_cv oq_X5_readCause_49 (by decide) Th106 (k := 50) (d := 5) (as := [cv_r (b + 12), cv_i x101]) (stk := [cv_i x101, cv_r (b + 12)]) rfl rfl rfl rfl rfl rfl ⟨rfl, rfl⟩ (R := fun o => ∃ (x : Int32) (hb : cv_H), o = (some (cv_i x), hb) ∧ cw_T G hb ∧ cw_Fr cw_Ds cw_sh kk_X5_readNewName_2.2.2.2.2.2.1 h106 hb ∧ zCr t n hb x (zm t n l (zx t n p))) (ct_nameSC (t := t) (n := n) (l := l) hb (fun i => by rw [ht, ← hA _ Fh106]) (fun i hi => by rw [hB _ Fh106]; exact hwd i hi) hn9 Th106 (by omega) (by omega) hlh106 Sh106 (fun x hb b1 b2 b3 => ⟨x, hb, rfl, b1, b2, b3⟩)) (fun o ho => ?_)
      obtain ⟨x107, h108, rfl, Th108, Ch108, dx107⟩ := ho
      show cw_X _ _ _ _ _ [cv_i x107, cv_i x101, cv_r (b + 12)] h108
      rw [E1] at dx107
      obtain ⟨wx107, Sh108⟩ := zCr_r dx107
      clear dx107
      have Fh108 : cw_Fr cw_Ds cw_sh kk_X5_readCause.2.2.2.2.2.1 h0 h108 := cw_Fr_tr Fh106 (cw_Fr_mono (by decide +kernel) Ch108)
      have eh108_b_19 : ri_at h108 b 19 = (l.length : Int) := (ri_frf Ch108 (k := b) (d := 4) hb4 rfl (by decide +kernel)).trans eh106_b_19
      clear eh106_b_19
      clear yah106 ybh106 ych106 ykh106 yvh106 yfh106
      obtain ⟨pnh108, yah108, ybh108, ych108, ydh108, yfh108⟩ := zCs_at Sh108
      obtain ⟨kch108, ykh108⟩ : ∃ k, ri_at h108 51 4 = k := ⟨_, rfl⟩
      obtain ⟨vch108, yvh108⟩ : ∃ k, ri_at h108 51 6 = k := ⟨_, rfl⟩
      rw [ykh108, yvh108] at ydh108
      replace ydh108 := zhd_i ydh108
      have zlh108 := zx_le (t := t) (n := n) (p := p1) (by omega)
      refine ex_iw1 oq_X5_readCause_52 Th108 (k := (b + 12)) (d := 39) (j := l.length) hkb12 rfl (by omega) (by omega) ⟨(cw_i32 _).1, (cw_i32 _).2⟩ (fun h109 Th109 wh109 => ?_)
      have Fh109 : cw_Fr cw_Ds cw_sh kk_X5_readCause.2.2.2.2.2.1 h0 h109 := cw_Fr_tr Fh108 (cw_Fr_wrr wh109 (k := (b + 12)) (d := 39) hkb12 rfl (by decide +kernel))
      have eh109_b_19 : ri_at h109 b 19 = (l.length : Int) := (ri_ne wh109 (.inl (cw_kne (k := b) (d := 4) (k' := (b + 12)) (d' := 39) hb4 hkb12 (by decide)))).trans eh108_b_19
      clear eh108_b_19
      have Sh109 := zCs_wr (d := 39) (k := (b + 12)) wh109 hkb12 Sh108 (.inl ⟨by decide, by decide⟩)
      refine ex_al oq_X5_readCause_53 gL102_0 ?_
      refine ex_gf oq_X5_readCause_54 Th109 (k := 50) (d := 5) rfl rfl ((hPL _ Fh109).1) ?_
      refine ex_gf oq_X5_readCause_57 Th109 (k := b) (d := 4) hb4 rfl ((show cw_at h109 b 16 = some (cv_r (b + 13)) from (hPL _ Fh109).2.1 16 (by decide))) ?_
      refine ex_il oq_X5_readCause_60 gL102_1 ?_
      refine ex_al oq_X5_readCause_61 gL102_0 ?_
      refine ex_ic oq_X5_readCause_62 (m := 1) (by decide) (fun x110 hx110 => ?_)
      refine ex_bi oq_X5_readCause_63 (m := 99) (by decide) (fun x111 hx111 => ?_)
      refine ex_cv oq_X5_readCause_65 (by decide) Th109 (k := 50) (d := 5) (as := [cv_i x110, cv_i x111]) (stk := [cv_i x101, cv_r (b + 13)]) rfl rfl rfl rfl rfl rfl ⟨rfl, rfl⟩ (R := fun o => ∃ (x : Int32) (hb : cv_H), o = (some (cv_i x), hb) ∧ cw_T G hb ∧ cw_Fr cw_Ds cw_sh kk_X5_readNumber_1.2.2.2.2.2.1 h109 hb ∧ zCr t n hb x (zn t n x110.toInt x111.toInt p1)) (ct_readNumber (t := t) (n := n) (fun i => by rw [ht, ← hA _ Fh109]) (fun i hi => by rw [hB _ Fh109]; exact hwd i hi) hn9 Th109 Sh109 x110 x111 (by omega) (by omega) (fun x hb b1 b2 b3 => ⟨x, hb, rfl, b1, b2, b3⟩)) (fun o ho => ?_)
      obtain ⟨x112, h113, rfl, Th113, Ch113, dx112⟩ := ho
      show cw_X _ _ _ _ _ [cv_i x112, cv_i x101, cv_r (b + 13)] h113
      rw [hx110, hx111] at dx112
      rw [E2] at dx112
      obtain ⟨wx112, Sh113⟩ := zCr_r dx112
      clear dx112
      have Fh113 : cw_Fr cw_Ds cw_sh kk_X5_readCause.2.2.2.2.2.1 h0 h113 := cw_Fr_tr Fh109 (cw_Fr_mono (by decide +kernel) Ch113)
      have eh113_b_19 : ri_at h113 b 19 = (l.length : Int) := (ri_frf Ch113 (k := b) (d := 4) hb4 rfl (by decide +kernel)).trans eh109_b_19
      clear eh109_b_19
      clear yah108 ybh108 ych108 ykh108 yvh108 yfh108
      obtain ⟨pnh113, yah113, ybh113, ych113, ydh113, yfh113⟩ := zCs_at Sh113
      obtain ⟨kch113, ykh113⟩ : ∃ k, ri_at h113 51 4 = k := ⟨_, rfl⟩
      obtain ⟨vch113, yvh113⟩ : ∃ k, ri_at h113 51 6 = k := ⟨_, rfl⟩
      rw [ykh113, yvh113] at ydh113
      replace ydh113 := zhd_i ydh113
      have zlh113 := zx_le (t := t) (n := n) (p := p2) (by omega)
      refine ex_iw1 oq_X5_readCause_68 Th113 (k := (b + 13)) (d := 40) (j := l.length) hkb13 rfl (by omega) (by omega) ⟨(cw_i32 _).1, (cw_i32 _).2⟩ (fun h114 Th114 wh114 => ?_)
      have Fh114 : cw_Fr cw_Ds cw_sh kk_X5_readCause.2.2.2.2.2.1 h0 h114 := cw_Fr_tr Fh113 (cw_Fr_wrr wh114 (k := (b + 13)) (d := 40) hkb13 rfl (by decide +kernel))
      have eh114_b_19 : ri_at h114 b 19 = (l.length : Int) := (ri_ne wh114 (.inl (cw_kne (k := b) (d := 4) (k' := (b + 13)) (d' := 40) hb4 hkb13 (by decide)))).trans eh113_b_19
      clear eh113_b_19
      have Sh114 := zCs_wr (d := 40) (k := (b + 13)) wh114 hkb13 Sh113 (.inl ⟨by decide, by decide⟩)
      refine ex_al oq_X5_readCause_69 gL102_0 ?_
      clear yah113 ybh113 ych113 ykh113 yvh113 yfh113
      obtain ⟨pnh114, yah114, ybh114, ych114, ydh114, yfh114⟩ := zCs_at Sh114
      obtain ⟨kch114, ykh114⟩ : ∃ k, ri_at h114 51 4 = k := ⟨_, rfl⟩
      obtain ⟨vch114, yvh114⟩ : ∃ k, ri_at h114 51 6 = k := ⟨_, rfl⟩
      rw [ykh114, yvh114] at ydh114
      replace ydh114 := zhd_i ydh114
      have zlh114 := zx_le (t := t) (n := n) (p := p2) (by omega)
      obtain ⟨x115, ax115, rx115, lx115, ux115⟩ := ri_fld (k := 50) (d := 5) (f := 4) Th114 rfl rfl rfl
      try dsimp only at lx115 ux115
      refine ex_gf oq_X5_readCause_70 Th114 (k := 50) (d := 5) rfl rfl ax115 ?_
      clear lx115 ux115
      have rx115 := (rx115.symm.trans yfh114 : x115.toInt = 0)
      refine ex_if0 oq_X5_readCause_73 (t := 89) rfl rfl (fun (c116 : ¬ x115.toInt = 0) => ?_) (fun (c116 : ¬ (¬ x115.toInt = 0)) => ?_)
      · exfalso; omega
      · refine ex_al oq_X5_readCause_76 gL102_0 ?_
        refine ex_gf oq_X5_readCause_77 Th114 (k := 50) (d := 5) rfl rfl (ri_ref (k := 50) (k' := 51) (d := 5) (f := 0) Th114 rfl rfl rfl (by decide) (ri_uniq (by decide +kernel))) ?_
        refine ex_ic oq_X5_readCause_80 (m := 5) (by decide) (fun x117 hx117 => ?_)
        refine ex_bi oq_X5_readCause_81 (m := 7) (by decide) (fun x118 hx118 => ?_)
        refine ex_cv oq_X5_readCause_83 (by decide) Th114 (k := 51) (d := 6) (as := [cv_i x117, cv_i x118]) (stk := []) rfl rfl rfl rfl rfl rfl ⟨rfl, rfl⟩ (R := fun o => ∃ x : Int32, o = (some (cv_i x), h114) ∧ (x.toInt = 1 ∧ (kch114 = 2 ∧ x117.toInt ≤ vch114 ∧ vch114 ≤ x118.toInt) ∨ x.toInt = 0 ∧ ¬ (kch114 = 2 ∧ x117.toInt ≤ vch114 ∧ vch114 ≤ x118.toInt))) (ct_isWordFrom Th114 x117 x118 ykh114 yvh114 (fun x q => ⟨x, rfl, q⟩)) (fun o ho => ?_)
        obtain ⟨x119, rfl, dx119⟩ := ho
        show cw_X _ _ _ _ _ [cv_i x119] h114
        rw [hx117] at dx119
        rw [hx118] at dx119
        have rl120 := rl_pw (show tz_rel _ _ _ _ from ydh114)
        refine ex_if0 oq_X5_readCause_86 (t := 96) rfl rfl (fun (c121 : ¬ x119.toInt = 0) => ?_) (fun (c121 : ¬ (¬ x119.toInt = 0)) => ?_)
        · refine ex_al oq_X5_readCause_96 gL102_0 ?_
          refine ex_gf oq_X5_readCause_97 Th114 (k := 50) (d := 5) rfl rfl ((hPL _ Fh114).1) ?_
          refine ex_gf oq_X5_readCause_100 Th114 (k := b) (d := 4) hb4 rfl ((show cw_at h114 b 17 = some (cv_r (b + 14)) from (hPL _ Fh114).2.1 17 (by decide))) ?_
          refine ex_il oq_X5_readCause_103 gL102_1 ?_
          refine ex_al oq_X5_readCause_104 gL102_0 ?_
          refine ex_gf oq_X5_readCause_105 Th114 (k := 50) (d := 5) rfl rfl (ri_ref (k := 50) (k' := 51) (d := 5) (f := 0) Th114 rfl rfl rfl (by decide) (ri_uniq (by decide +kernel))) ?_
          obtain ⟨x122, ax122, rx122, lx122, ux122⟩ := ri_fld (k := 51) (d := 6) (f := 6) Th114 rfl rfl rfl
          try dsimp only at lx122 ux122
          refine ex_gf oq_X5_readCause_108 Th114 (k := 51) (d := 6) rfl rfl ax122 ?_
          clear lx122 ux122
          have rx122 := (rx122.symm.trans yvh114 : x122.toInt = vch114)
          refine ex_ic oq_X5_readCause_111 (m := 5) (by decide) (fun x123 hx123 => ?_)
          refine ex_sub oq_X5_readCause_112 (by omega) (fun x124 hx124 => ?_)
          refine ex_iw1 oq_X5_readCause_113 Th114 (k := (b + 14)) (d := 41) (j := l.length) hkb14 rfl (by omega) (by omega) ⟨(cw_i32 _).1, (cw_i32 _).2⟩ (fun h125 Th125 wh125 => ?_)
          have Fh125 : cw_Fr cw_Ds cw_sh kk_X5_readCause.2.2.2.2.2.1 h0 h125 := cw_Fr_tr Fh114 (cw_Fr_wrr wh125 (k := (b + 14)) (d := 41) hkb14 rfl (by decide +kernel))
          have eh125_b_19 : ri_at h125 b 19 = (l.length : Int) := (ri_ne wh125 (.inl (cw_kne (k := b) (d := 4) (k' := (b + 14)) (d' := 41) hb4 hkb14 (by decide)))).trans eh114_b_19
          clear eh114_b_19
          have Sh125 := zCs_wr (d := 41) (k := (b + 14)) wh125 hkb14 Sh114 (.inl ⟨by decide, by decide⟩)
          refine ex_al oq_X5_readCause_114 gL102_0 ?_
          refine ex_gf oq_X5_readCause_115 Th125 (k := 50) (d := 5) rfl rfl (ri_ref (k := 50) (k' := 51) (d := 5) (f := 0) Th125 rfl rfl rfl (by decide) (ri_uniq (by decide +kernel))) ?_
          refine ex_cv oq_X5_readCause_118 (by decide) Th125 (k := 51) (d := 6) (as := []) (stk := []) rfl rfl rfl rfl rfl rfl ⟨rfl, rfl⟩ (R := fun o => ∃ hb : cv_H, o = (none, hb) ∧ cw_T G hb ∧ cw_Fr cw_Ds cw_sh kk_X6_step.2.2.2.2.2.1 h125 hb ∧ zCs t n (.inr (zx t n p2)) hb) (ct_stepC (t := t) (n := n) (p := p2) (fun i => by rw [ht, ← hA _ Fh125]) (fun i hi => by rw [hB _ Fh125]; exact hwd i hi) hn9 Th125 Sh125 (fun hb b1 b2 b3 => ⟨hb, rfl, b1, b2, b3⟩)) (fun o ho => ?_)
          obtain ⟨h126, rfl, Th126, Ch126, Sh126⟩ := ho
          show cw_X _ _ _ _ _ [] h126
          have Fh126 : cw_Fr cw_Ds cw_sh kk_X5_readCause.2.2.2.2.2.1 h0 h126 := cw_Fr_tr Fh125 (cw_Fr_mono (by decide +kernel) Ch126)
          have eh126_b_19 : ri_at h126 b 19 = (l.length : Int) := (ri_frf Ch126 (k := b) (d := 4) hb4 rfl (by decide +kernel)).trans eh125_b_19
          clear eh125_b_19
          clear yah114 ybh114 ych114 ykh114 yvh114 yfh114
          obtain ⟨pnh126, yah126, ybh126, ych126, ydh126, yfh126⟩ := zCs_at Sh126
          obtain ⟨kch126, ykh126⟩ : ∃ k, ri_at h126 51 4 = k := ⟨_, rfl⟩
          obtain ⟨vch126, yvh126⟩ : ∃ k, ri_at h126 51 6 = k := ⟨_, rfl⟩
          rw [ykh126, yvh126] at ydh126
          replace ydh126 := zhd_i ydh126
          have zlh126 := zx_le (t := t) (n := n) (p := (zx t n p2)) (by omega)
          refine ex_al oq_X5_readCause_121 gL102_0 ?_
          refine ex_gf oq_X5_readCause_122 Th126 (k := 50) (d := 5) rfl rfl ((hPL _ Fh126).1) ?_
          refine ex_gf oq_X5_readCause_125 Th126 (k := b) (d := 4) hb4 rfl ((show cw_at h126 b 18 = some (cv_r (b + 15)) from (hPL _ Fh126).2.1 18 (by decide))) ?_
          refine ex_il oq_X5_readCause_128 gL102_1 ?_
          refine ex_al oq_X5_readCause_129 gL102_0 ?_
          refine ex_ic oq_X5_readCause_130 (m := 1) (by decide) (fun x127 hx127 => ?_)
          refine ex_si oq_X5_readCause_131 (m := 999) (by decide) (fun x128 hx128 => ?_)
          refine ex_cv oq_X5_readCause_134 (by decide) Th126 (k := 50) (d := 5) (as := [cv_i x127, cv_i x128]) (stk := [cv_i x101, cv_r (b + 15)]) rfl rfl rfl rfl rfl rfl ⟨rfl, rfl⟩ (R := fun o => ∃ (x : Int32) (hb : cv_H), o = (some (cv_i x), hb) ∧ cw_T G hb ∧ cw_Fr cw_Ds cw_sh kk_X5_readNumber_1.2.2.2.2.2.1 h126 hb ∧ zCr t n hb x (zn t n x127.toInt x128.toInt (zx t n p2))) (ct_readNumber (t := t) (n := n) (fun i => by rw [ht, ← hA _ Fh126]) (fun i hi => by rw [hB _ Fh126]; exact hwd i hi) hn9 Th126 Sh126 x127 x128 (by omega) (by omega) (fun x hb b1 b2 b3 => ⟨x, hb, rfl, b1, b2, b3⟩)) (fun o ho => ?_)
          obtain ⟨x129, h130, rfl, Th130, Ch130, dx129⟩ := ho
          show cw_X _ _ _ _ _ [cv_i x129, cv_i x101, cv_r (b + 15)] h130
          rw [hx127, hx128] at dx129
          rw [E4] at dx129
          obtain ⟨wx129, Sh130⟩ := zCr_r dx129
          clear dx129
          have Fh130 : cw_Fr cw_Ds cw_sh kk_X5_readCause.2.2.2.2.2.1 h0 h130 := cw_Fr_tr Fh126 (cw_Fr_mono (by decide +kernel) Ch130)
          have eh130_b_19 : ri_at h130 b 19 = (l.length : Int) := (ri_frf Ch130 (k := b) (d := 4) hb4 rfl (by decide +kernel)).trans eh126_b_19
          clear eh126_b_19
          clear yah126 ybh126 ych126 ykh126 yvh126 yfh126
          obtain ⟨pnh130, yah130, ybh130, ych130, ydh130, yfh130⟩ := zCs_at Sh130
          obtain ⟨kch130, ykh130⟩ : ∃ k, ri_at h130 51 4 = k := ⟨_, rfl⟩
          obtain ⟨vch130, yvh130⟩ : ∃ k, ri_at h130 51 6 = k := ⟨_, rfl⟩
          rw [ykh130, yvh130] at ydh130
          replace ydh130 := zhd_i ydh130
          have zlh130 := zx_le (t := t) (n := n) (p := p3) (by omega)
          refine ex_iw1 oq_X5_readCause_137 Th130 (k := (b + 15)) (d := 42) (j := l.length) hkb15 rfl (by omega) (by omega) ⟨(cw_i32 _).1, (cw_i32 _).2⟩ (fun h131 Th131 wh131 => ?_)
          have Fh131 : cw_Fr cw_Ds cw_sh kk_X5_readCause.2.2.2.2.2.1 h0 h131 := cw_Fr_tr Fh130 (cw_Fr_wrr wh131 (k := (b + 15)) (d := 42) hkb15 rfl (by decide +kernel))
          have eh131_b_19 : ri_at h131 b 19 = (l.length : Int) := (ri_ne wh131 (.inl (cw_kne (k := b) (d := 4) (k' := (b + 15)) (d' := 42) hb4 hkb15 (by decide)))).trans eh130_b_19
          clear eh130_b_19
          have Sh131 := zCs_wr (d := 42) (k := (b + 15)) wh131 hkb15 Sh130 (.inl ⟨by decide, by decide⟩)
          refine ex_al oq_X5_readCause_138 gL102_0 ?_
          refine ex_gf oq_X5_readCause_139 Th131 (k := 50) (d := 5) rfl rfl ((hPL _ Fh131).1) ?_
          refine ex_il oq_X5_readCause_142 gL102_1 ?_
          refine ex_ic oq_X5_readCause_143 (m := 1) (by decide) (fun x132 hx132 => ?_)
          refine ex_add oq_X5_readCause_144 (by omega) (fun x133 hx133 => ?_)
          refine ex_pfi oq_X5_readCause_145 Th131 (k := b) (d := 4) hb4 rfl rfl (by omega) (by omega) (fun h134 Th134 wh134 => ?_)
          have Fh134 : cw_Fr cw_Ds cw_sh kk_X5_readCause.2.2.2.2.2.1 h0 h134 := cw_Fr_tr Fh131 (cw_Fr_wrf wh134 (k := b) (d := 4) hb4 rfl (by decide +kernel))
          have eh134_b_19 : ri_at h134 b 19 = x133.toInt := ri_self wh134
          have Sh134 := zCs_wr (d := 4) (k := b) wh134 hb4 Sh131 (.inl ⟨by decide, by decide⟩)
          exact ex_retv oq_X5_readCause_148 rfl (hQ h134 Th134 Fh134 Sh134 (by omega) (zNm_end wh109 (zNm_eq hl (fun i => ((ri_frr Ch108 (k := (b + 12)) (d := 39) hkb12 rfl (by decide +kernel)).trans (ri_frr Ch106 (k := (b + 12)) (d := 39) hkb12 rfl (by decide +kernel))))) (fun i => ((ri_ne wh134 (.inl (cw_kne (k := (b + 12)) (d := 39) (k' := b) (d' := 4) hkb12 hb4 (by decide)))).trans ((ri_ne wh131 (.inl (cw_kne (k := (b + 12)) (d := 39) (k' := (b + 15)) (d' := 42) hkb12 hkb15 (by decide)))).trans ((ri_frr Ch130 (k := (b + 12)) (d := 39) hkb12 rfl (by decide +kernel)).trans ((ri_frr Ch126 (k := (b + 12)) (d := 39) hkb12 rfl (by decide +kernel)).trans ((ri_ne wh125 (.inl (cw_kne (k := (b + 12)) (d := 39) (k' := (b + 14)) (d' := 41) hkb12 hkb14 (by decide)))).trans ((ri_ne wh114 (.inl (cw_kne (k := (b + 12)) (d := 39) (k' := (b + 13)) (d' := 40) hkb12 hkb13 (by decide)))).trans (ri_frr Ch113 (k := (b + 12)) (d := 39) hkb12 rfl (by decide +kernel))))))))) (wx107)) (zNm_end (by rw [ew]; exact wh114) (zNm_eq haw (fun i => ((ri_frr Ch113 (k := (b + 13)) (d := 40) hkb13 rfl (by decide +kernel)).trans ((ri_ne wh109 (.inl (cw_kne (k := (b + 13)) (d := 40) (k' := (b + 12)) (d' := 39) hkb13 hkb12 (by decide)))).trans ((ri_frr Ch108 (k := (b + 13)) (d := 40) hkb13 rfl (by decide +kernel)).trans (ri_frr Ch106 (k := (b + 13)) (d := 40) hkb13 rfl (by decide +kernel))))))) (fun i => ((ri_ne wh134 (.inl (cw_kne (k := (b + 13)) (d := 40) (k' := b) (d' := 4) hkb13 hb4 (by decide)))).trans ((ri_ne wh131 (.inl (cw_kne (k := (b + 13)) (d := 40) (k' := (b + 15)) (d' := 42) hkb13 hkb15 (by decide)))).trans ((ri_frr Ch130 (k := (b + 13)) (d := 40) hkb13 rfl (by decide +kernel)).trans ((ri_frr Ch126 (k := (b + 13)) (d := 40) hkb13 rfl (by decide +kernel)).trans (ri_ne wh125 (.inl (cw_kne (k := (b + 13)) (d := 40) (k' := (b + 14)) (d' := 41) hkb13 hkb14 (by decide))))))))) (wx112)) (zNm_end (by rw [ek]; exact wh125) (zNm_eq hak (fun i => ((ri_ne wh114 (.inl (cw_kne (k := (b + 14)) (d := 41) (k' := (b + 13)) (d' := 40) hkb14 hkb13 (by decide)))).trans ((ri_frr Ch113 (k := (b + 14)) (d := 41) hkb14 rfl (by decide +kernel)).trans ((ri_ne wh109 (.inl (cw_kne (k := (b + 14)) (d := 41) (k' := (b + 12)) (d' := 39) hkb14 hkb12 (by decide)))).trans ((ri_frr Ch108 (k := (b + 14)) (d := 41) hkb14 rfl (by decide +kernel)).trans (ri_frr Ch106 (k := (b + 14)) (d := 41) hkb14 rfl (by decide +kernel)))))))) (fun i => ((ri_ne wh134 (.inl (cw_kne (k := (b + 14)) (d := 41) (k' := b) (d' := 4) hkb14 hb4 (by decide)))).trans ((ri_ne wh131 (.inl (cw_kne (k := (b + 14)) (d := 41) (k' := (b + 15)) (d' := 42) hkb14 hkb15 (by decide)))).trans ((ri_frr Ch130 (k := (b + 14)) (d := 41) hkb14 rfl (by decide +kernel)).trans (ri_frr Ch126 (k := (b + 14)) (d := 41) hkb14 rfl (by decide +kernel)))))) (by omega)) (zNm_end (by rw [en]; exact wh131) (zNm_eq han (fun i => ((ri_frr Ch130 (k := (b + 15)) (d := 42) hkb15 rfl (by decide +kernel)).trans ((ri_frr Ch126 (k := (b + 15)) (d := 42) hkb15 rfl (by decide +kernel)).trans ((ri_ne wh125 (.inl (cw_kne (k := (b + 15)) (d := 42) (k' := (b + 14)) (d' := 41) hkb15 hkb14 (by decide)))).trans ((ri_ne wh114 (.inl (cw_kne (k := (b + 15)) (d := 42) (k' := (b + 13)) (d' := 40) hkb15 hkb13 (by decide)))).trans ((ri_frr Ch113 (k := (b + 15)) (d := 42) hkb15 rfl (by decide +kernel)).trans ((ri_ne wh109 (.inl (cw_kne (k := (b + 15)) (d := 42) (k' := (b + 12)) (d' := 39) hkb15 hkb12 (by decide)))).trans ((ri_frr Ch108 (k := (b + 15)) (d := 42) hkb15 rfl (by decide +kernel)).trans (ri_frr Ch106 (k := (b + 15)) (d := 42) hkb15 rfl (by decide +kernel))))))))))) (fun i => (ri_ne wh134 (.inl (cw_kne (k := (b + 15)) (d := 42) (k' := b) (d' := 4) hkb15 hb4 (by decide))))) (wx129)))
        · exfalso; omega
    · exfalso; omega
set_option maxHeartbeats 8000000 in
theorem ct_workDA {h0 : cv_H} {n p : Nat} (ht : ∀ i, t i = ri_at h0 1 i % 256) (hwd : ∀ i, i < 34 → ri_at h0 52 i = tz_wc.getD i 0) (hn9 : n ≤ 900) (hT : cw_T G h0) {b : Nat} (hb : b = 2 ∨ b = 26) (hpl : zPL b h0) (hS : zCs t n (.inr p) h0) {l : List Int} (hc : ri_at h0 b 14 = l.length) (hlm : l.length < 6) (hl : zNm h0 (b + 8) 0 l) {nm w k : Int} {p1 p2 p3 : Nat} (E1 : zm t n l (zx t n p) = .inr (nm, p1)) (E2 : zn t n 1 999 p1 = .inr (w, p2)) (E3 : 1 < zwk (zk t n p2) (zw t n p2)) (E4 : zn t n 0 (zmo (zwk (zk t n p2) (zw t n p2))) (zx t n p2) = .inr (k, p3)) {aw ak an : List Int} (ew : aw.length = l.length) (ek : ak.length = l.length) (en : an.length = l.length) (haw : zNm h0 (b + 9) 0 aw) (hak : zNm h0 (b + 10) 0 ak) (han : zNm h0 (b + 11) 0 an)
    (hQ : ∀ h', cw_T G h' → cw_Fr cw_Ds cw_sh kk_X5_readWork.2.2.2.2.2.1 h0 h' → zCs t n (.inr p3) h' → ri_at h' b 14 = l.length + 1 → zNm h' (b + 8) 0 (l ++ [nm]) → zNm h' (b + 9) 0 (aw ++ [w]) → zNm h' (b + 10) 0 (ak ++ [zwk (zk t n p2) (zw t n p2)]) → zNm h' (b + 11) 0 (an ++ [k]) → Q (none, h')) : cw_X X 71 Q 0 (cv_ent 0 [cv_r 50]) [] h0 := by
  have Fh0 : cw_Fr cw_Ds cw_sh kk_X5_readWork.2.2.2.2.2.1 h0 h0 := cw_Fr_refl
  have hA : ∀ h, cw_Fr cw_Ds cw_sh kk_X5_readWork.2.2.2.2.2.1 h0 h → ∀ i, ri_at h 1 i = ri_at h0 1 i := fun h F i => ri_frr F (k := 1) (d := 13) rfl rfl (by decide +kernel)
  have hB : ∀ h, cw_Fr cw_Ds cw_sh kk_X5_readWork.2.2.2.2.2.1 h0 h → ∀ i, ri_at h 52 i = ri_at h0 52 i := fun h F i => ri_frr F (k := 52) (d := 43) rfl rfl (by decide +kernel)
  have hPL : ∀ h, cw_Fr cw_Ds cw_sh kk_X5_readWork.2.2.2.2.2.1 h0 h → zPL b h := fun h F => zPL_fr hb F (by decide +kernel) hpl
  have hb4 : cw_sh[b]? = some 4 := by rcases hb with rfl | rfl <;> rfl
  have hkb1 : cw_sh[b + 1]? = some 28 := by rcases hb with rfl | rfl <;> rfl
  have hkb2 : cw_sh[b + 2]? = some 29 := by rcases hb with rfl | rfl <;> rfl
  have hkb3 : cw_sh[b + 3]? = some 30 := by rcases hb with rfl | rfl <;> rfl
  have hkb4 : cw_sh[b + 4]? = some 31 := by rcases hb with rfl | rfl <;> rfl
  have hkb5 : cw_sh[b + 5]? = some 32 := by rcases hb with rfl | rfl <;> rfl
  have hkb6 : cw_sh[b + 6]? = some 33 := by rcases hb with rfl | rfl <;> rfl
  have hkb7 : cw_sh[b + 7]? = some 34 := by rcases hb with rfl | rfl <;> rfl
  have hkb8 : cw_sh[b + 8]? = some 35 := by rcases hb with rfl | rfl <;> rfl
  have hkb9 : cw_sh[b + 9]? = some 36 := by rcases hb with rfl | rfl <;> rfl
  have hkb10 : cw_sh[b + 10]? = some 37 := by rcases hb with rfl | rfl <;> rfl
  have hkb11 : cw_sh[b + 11]? = some 38 := by rcases hb with rfl | rfl <;> rfl
  have hkb12 : cw_sh[b + 12]? = some 39 := by rcases hb with rfl | rfl <;> rfl
  have hkb13 : cw_sh[b + 13]? = some 40 := by rcases hb with rfl | rfl <;> rfl
  have hkb14 : cw_sh[b + 14]? = some 41 := by rcases hb with rfl | rfl <;> rfl
  have hkb15 : cw_sh[b + 15]? = some 42 := by rcases hb with rfl | rfl <;> rfl
  refine ex_al oq_X5_readWork_0 rfl ?_
  refine ex_gf oq_X5_readWork_1 hT (k := 50) (d := 5) rfl rfl ((hPL _ Fh0).1) ?_
  obtain ⟨x101, ax101, rx101, lx101, ux101⟩ := ri_fld (k := b) (d := 4) (f := 14) hT hb4 rfl rfl
  try dsimp only at lx101 ux101
  refine ex_gf oq_X5_readWork_4 hT (k := b) (d := 4) hb4 rfl ax101 ?_
  have rx101 := (rx101.symm.trans hc : x101.toInt = (l.length : Int))
  refine ex_isA oq_X5_readWork_7 (fun L102 gL102_1 kL102 => ?_)
  have gL102_0 : cv_get L102 0 = some (cv_r 50) := kL102 0 _ (by decide) (fun _ => rfl) rfl
  refine ex_il oq_X5_readWork_8 gL102_1 ?_
  refine ex_if0 oq_X5_readWork_9 (t := 18) rfl rfl (fun (c103 : x101.toInt < 0) => ?_) (fun (c103 : ¬ (x101.toInt < 0)) => ?_)
  · exfalso; omega
  · refine ex_il oq_X5_readWork_12 gL102_1 ?_
    refine ex_bi oq_X5_readWork_13 (m := 6) (by decide) (fun x104 hx104 => ?_)
    refine ex_if oq_X5_readWork_15 (t := 25) rfl rfl (fun (c105 : x101.toInt < x104.toInt) => ?_) (fun (c105 : ¬ (x101.toInt < x104.toInt)) => ?_)
    · refine ex_al oq_X5_readWork_25 gL102_0 ?_
      refine ex_gf oq_X5_readWork_26 hT (k := 50) (d := 5) rfl rfl (ri_ref (k := 50) (k' := 51) (d := 5) (f := 0) hT rfl rfl rfl (by decide) (ri_uniq (by decide +kernel))) ?_
      refine ex_cv oq_X5_readWork_29 (by decide) hT (k := 51) (d := 6) (as := []) (stk := []) rfl rfl rfl rfl rfl rfl ⟨rfl, rfl⟩ (R := fun o => ∃ hb : cv_H, o = (none, hb) ∧ cw_T G hb ∧ cw_Fr cw_Ds cw_sh kk_X6_step.2.2.2.2.2.1 h0 hb ∧ zCs t n (.inr (zx t n p)) hb) (ct_stepC (t := t) (n := n) (p := p) (fun i => by rw [ht, ← hA _ Fh0]) (fun i hi => by rw [hB _ Fh0]; exact hwd i hi) hn9 hT hS (fun hb b1 b2 b3 => ⟨hb, rfl, b1, b2, b3⟩)) (fun o ho => ?_)
      obtain ⟨h106, rfl, Th106, Ch106, Sh106⟩ := ho
      show cw_X _ _ _ _ _ [] h106
      have Fh106 : cw_Fr cw_Ds cw_sh kk_X5_readWork.2.2.2.2.2.1 h0 h106 := cw_Fr_tr Fh0 (cw_Fr_mono (by decide +kernel) Ch106)
      have eh106_b_14 : ri_at h106 b 14 = (l.length : Int) := (ri_frf Ch106 (k := b) (d := 4) hb4 rfl (by decide +kernel)).trans hc
      obtain ⟨pnh106, yah106, ybh106, ych106, ydh106, yfh106⟩ := zCs_at Sh106
      obtain ⟨kch106, ykh106⟩ : ∃ k, ri_at h106 51 4 = k := ⟨_, rfl⟩
      obtain ⟨vch106, yvh106⟩ : ∃ k, ri_at h106 51 6 = k := ⟨_, rfl⟩
      rw [ykh106, yvh106] at ydh106
      replace ydh106 := zhd_i ydh106
      have zlh106 := zx_le (t := t) (n := n) (p := (zx t n p)) (by omega)
      refine ex_al oq_X5_readWork_32 gL102_0 ?_
      refine ex_gf oq_X5_readWork_33 Th106 (k := 50) (d := 5) rfl rfl ((hPL _ Fh106).1) ?_
      refine ex_gf oq_X5_readWork_36 Th106 (k := b) (d := 4) hb4 rfl ((show cw_at h106 b 10 = some (cv_r (b + 8)) from (hPL _ Fh106).2.1 10 (by decide))) ?_
      refine ex_il oq_X5_readWork_39 gL102_1 ?_
      refine ex_al oq_X5_readWork_40 gL102_0 ?_
      refine ex_al oq_X5_readWork_41 gL102_0 ?_
      refine ex_gf oq_X5_readWork_42 Th106 (k := 50) (d := 5) rfl rfl ((hPL _ Fh106).1) ?_
      refine ex_gf oq_X5_readWork_45 Th106 (k := b) (d := 4) hb4 rfl ((show cw_at h106 b 10 = some (cv_r (b + 8)) from (hPL _ Fh106).2.1 10 (by decide))) ?_
      refine ex_il oq_X5_readWork_48 gL102_1 ?_
      have hlh106 : zNm h106 (b + 8) 0 l := zNm_eq hl (fun i => (ri_frr Ch106 (k := (b + 8)) (d := 35) hkb8 rfl (by decide +kernel)))
      refine ex_cv oq_X5_readWork_49 (by decide) Th106 (k := 50) (d := 5) (as := [cv_r (b + 8), cv_i x101]) (stk := [cv_i x101, cv_r (b + 8)]) rfl rfl rfl rfl rfl rfl ⟨rfl, rfl⟩ (R := fun o => ∃ (x : Int32) (hb : cv_H), o = (some (cv_i x), hb) ∧ cw_T G hb ∧ cw_Fr cw_Ds cw_sh kk_X5_readNewName_1.2.2.2.2.2.1 h106 hb ∧ zCr t n hb x (zm t n l (zx t n p))) (ct_nameSW (t := t) (n := n) (l := l) hb (fun i => by rw [ht, ← hA _ Fh106]) (fun i hi => by rw [hB _ Fh106]; exact hwd i hi) hn9 Th106 (by omega) (by omega) hlh106 Sh106 (fun x hb b1 b2 b3 => ⟨x, hb, rfl, b1, b2, b3⟩)) (fun o ho => ?_)
      obtain ⟨x107, h108, rfl, Th108, Ch108, dx107⟩ := ho
      show cw_X _ _ _ _ _ [cv_i x107, cv_i x101, cv_r (b + 8)] h108
      rw [E1] at dx107
      obtain ⟨wx107, Sh108⟩ := zCr_r dx107
      clear dx107
      have Fh108 : cw_Fr cw_Ds cw_sh kk_X5_readWork.2.2.2.2.2.1 h0 h108 := cw_Fr_tr Fh106 (cw_Fr_mono (by decide +kernel) Ch108)
      have eh108_b_14 : ri_at h108 b 14 = (l.length : Int) := (ri_frf Ch108 (k := b) (d := 4) hb4 rfl (by decide +kernel)).trans eh106_b_14
      clear eh106_b_14
      clear yah106 ybh106 ych106 ykh106 yvh106 yfh106
      obtain ⟨pnh108, yah108, ybh108, ych108, ydh108, yfh108⟩ := zCs_at Sh108
      obtain ⟨kch108, ykh108⟩ : ∃ k, ri_at h108 51 4 = k := ⟨_, rfl⟩
      obtain ⟨vch108, yvh108⟩ : ∃ k, ri_at h108 51 6 = k := ⟨_, rfl⟩
      rw [ykh108, yvh108] at ydh108
      replace ydh108 := zhd_i ydh108
      have zlh108 := zx_le (t := t) (n := n) (p := p1) (by omega)
      refine ex_iw1 oq_X5_readWork_52 Th108 (k := (b + 8)) (d := 35) (j := l.length) hkb8 rfl (by omega) (by omega) ⟨(cw_i32 _).1, (cw_i32 _).2⟩ (fun h109 Th109 wh109 => ?_)
      have Fh109 : cw_Fr cw_Ds cw_sh kk_X5_readWork.2.2.2.2.2.1 h0 h109 := cw_Fr_tr Fh108 (cw_Fr_wrr wh109 (k := (b + 8)) (d := 35) hkb8 rfl (by decide +kernel))
      have eh109_b_14 : ri_at h109 b 14 = (l.length : Int) := (ri_ne wh109 (.inl (cw_kne (k := b) (d := 4) (k' := (b + 8)) (d' := 35) hb4 hkb8 (by decide)))).trans eh108_b_14
      clear eh108_b_14
      have Sh109 := zCs_wr (d := 35) (k := (b + 8)) wh109 hkb8 Sh108 (.inl ⟨by decide, by decide⟩)
      refine ex_al oq_X5_readWork_53 gL102_0 ?_
      refine ex_gf oq_X5_readWork_54 Th109 (k := 50) (d := 5) rfl rfl ((hPL _ Fh109).1) ?_
      refine ex_gf oq_X5_readWork_57 Th109 (k := b) (d := 4) hb4 rfl ((show cw_at h109 b 11 = some (cv_r (b + 9)) from (hPL _ Fh109).2.1 11 (by decide))) ?_
      refine ex_il oq_X5_readWork_60 gL102_1 ?_
      refine ex_al oq_X5_readWork_61 gL102_0 ?_
      refine ex_ic oq_X5_readWork_62 (m := 1) (by decide) (fun x110 hx110 => ?_)
      refine ex_si oq_X5_readWork_63 (m := 999) (by decide) (fun x111 hx111 => ?_)
      refine ex_cv oq_X5_readWork_66 (by decide) Th109 (k := 50) (d := 5) (as := [cv_i x110, cv_i x111]) (stk := [cv_i x101, cv_r (b + 9)]) rfl rfl rfl rfl rfl rfl ⟨rfl, rfl⟩ (R := fun o => ∃ (x : Int32) (hb : cv_H), o = (some (cv_i x), hb) ∧ cw_T G hb ∧ cw_Fr cw_Ds cw_sh kk_X5_readNumber_1.2.2.2.2.2.1 h109 hb ∧ zCr t n hb x (zn t n x110.toInt x111.toInt p1)) (ct_readNumber (t := t) (n := n) (fun i => by rw [ht, ← hA _ Fh109]) (fun i hi => by rw [hB _ Fh109]; exact hwd i hi) hn9 Th109 Sh109 x110 x111 (by omega) (by omega) (fun x hb b1 b2 b3 => ⟨x, hb, rfl, b1, b2, b3⟩)) (fun o ho => ?_)
      obtain ⟨x112, h113, rfl, Th113, Ch113, dx112⟩ := ho
      show cw_X _ _ _ _ _ [cv_i x112, cv_i x101, cv_r (b + 9)] h113
      rw [hx110, hx111] at dx112
      rw [E2] at dx112
      obtain ⟨wx112, Sh113⟩ := zCr_r dx112
      clear dx112
      have Fh113 : cw_Fr cw_Ds cw_sh kk_X5_readWork.2.2.2.2.2.1 h0 h113 := cw_Fr_tr Fh109 (cw_Fr_mono (by decide +kernel) Ch113)
      have eh113_b_14 : ri_at h113 b 14 = (l.length : Int) := (ri_frf Ch113 (k := b) (d := 4) hb4 rfl (by decide +kernel)).trans eh109_b_14
      clear eh109_b_14
      clear yah108 ybh108 ych108 ykh108 yvh108 yfh108
      obtain ⟨pnh113, yah113, ybh113, ych113, ydh113, yfh113⟩ := zCs_at Sh113
      obtain ⟨kch113, ykh113⟩ : ∃ k, ri_at h113 51 4 = k := ⟨_, rfl⟩
      obtain ⟨vch113, yvh113⟩ : ∃ k, ri_at h113 51 6 = k := ⟨_, rfl⟩
      rw [ykh113, yvh113] at ydh113
      replace ydh113 := zhd_i ydh113
      have zlh113 := zx_le (t := t) (n := n) (p := p2) (by omega)
      refine ex_iw1 oq_X5_readWork_69 Th113 (k := (b + 9)) (d := 36) (j := l.length) hkb9 rfl (by omega) (by omega) ⟨(cw_i32 _).1, (cw_i32 _).2⟩ (fun h114 Th114 wh114 => ?_)
      have Fh114 : cw_Fr cw_Ds cw_sh kk_X5_readWork.2.2.2.2.2.1 h0 h114 := cw_Fr_tr Fh113 (cw_Fr_wrr wh114 (k := (b + 9)) (d := 36) hkb9 rfl (by decide +kernel))
      have eh114_b_14 : ri_at h114 b 14 = (l.length : Int) := (ri_ne wh114 (.inl (cw_kne (k := b) (d := 4) (k' := (b + 9)) (d' := 36) hb4 hkb9 (by decide)))).trans eh113_b_14
      clear eh113_b_14
      have Sh114 := zCs_wr (d := 36) (k := (b + 9)) wh114 hkb9 Sh113 (.inl ⟨by decide, by decide⟩)
      refine ex_al oq_X5_readWork_70 gL102_0 ?_
      clear yah113 ybh113 ych113 ykh113 yvh113 yfh113
      obtain ⟨pnh114, yah114, ybh114, ych114, ydh114, yfh114⟩ := zCs_at Sh114
      obtain ⟨kch114, ykh114⟩ : ∃ k, ri_at h114 51 4 = k := ⟨_, rfl⟩
      obtain ⟨vch114, yvh114⟩ : ∃ k, ri_at h114 51 6 = k := ⟨_, rfl⟩
      rw [ykh114, yvh114] at ydh114
      replace ydh114 := zhd_i ydh114
      have zlh114 := zx_le (t := t) (n := n) (p := p2) (by omega)
      obtain ⟨x115, ax115, rx115, lx115, ux115⟩ := ri_fld (k := 50) (d := 5) (f := 4) Th114 rfl rfl rfl
      try dsimp only at lx115 ux115
      refine ex_gf oq_X5_readWork_71 Th114 (k := 50) (d := 5) rfl rfl ax115 ?_
      clear lx115 ux115
      have rx115 := (rx115.symm.trans yfh114 : x115.toInt = 0)
      refine ex_if0 oq_X5_readWork_74 (t := 101) rfl rfl (fun (c116 : ¬ x115.toInt = 0) => ?_) (fun (c116 : ¬ (¬ x115.toInt = 0)) => ?_)
      · exfalso; omega
      · have zk1 : zk t n p2 = 1 := zwk_1 (w := zw t n p2) (by omega)
        have rl117 := rl_pw (show tz_rel _ _ _ _ from ydh114)
        refine ex_al oq_X5_readWork_77 gL102_0 ?_
        refine ex_gf oq_X5_readWork_78 Th114 (k := 50) (d := 5) rfl rfl (ri_ref (k := 50) (k' := 51) (d := 5) (f := 0) Th114 rfl rfl rfl (by decide) (ri_uniq (by decide +kernel))) ?_
        obtain ⟨x118, ax118, rx118, lx118, ux118⟩ := ri_fld (k := 51) (d := 6) (f := 4) Th114 rfl rfl rfl
        try dsimp only at lx118 ux118
        refine ex_gf oq_X5_readWork_81 Th114 (k := 51) (d := 6) rfl rfl ax118 ?_
        clear lx118 ux118
        have rx118 := (rx118.symm.trans ykh114 : x118.toInt = kch114)
        refine ex_ic oq_X5_readWork_84 (m := 2) (by decide) (fun x119 hx119 => ?_)
        refine ex_if oq_X5_readWork_85 (t := 101) rfl rfl (fun (c120 : ¬ x118.toInt = x119.toInt) => ?_) (fun (c120 : ¬ (¬ x118.toInt = x119.toInt)) => ?_)
        · exfalso; omega
        · refine ex_al oq_X5_readWork_88 gL102_0 ?_
          refine ex_gf oq_X5_readWork_89 Th114 (k := 50) (d := 5) rfl rfl (ri_ref (k := 50) (k' := 51) (d := 5) (f := 0) Th114 rfl rfl rfl (by decide) (ri_uniq (by decide +kernel))) ?_
          obtain ⟨x121, ax121, rx121, lx121, ux121⟩ := ri_fld (k := 51) (d := 6) (f := 6) Th114 rfl rfl rfl
          try dsimp only at lx121 ux121
          refine ex_gf oq_X5_readWork_92 Th114 (k := 51) (d := 6) rfl rfl ax121 ?_
          clear lx121 ux121
          have rx121 := (rx121.symm.trans yvh114 : x121.toInt = vch114)
          refine ex_cs oq_X5_readWork_95 (by decide) (as := [cv_i x121]) (stk := []) rfl rfl rfl ⟨rfl, rfl⟩ (R := fun o => ∃ x : Int32, o = (some (cv_i x), h114) ∧ x.toInt = zkc x121.toInt) (ct_kindOf x121 (fun x q => ⟨x, rfl, q⟩)) (fun o ho => ?_)
          obtain ⟨x122, rfl, mx122⟩ := ho
          show cw_X _ _ _ _ _ [cv_i x122] h114
          have zkw : x122.toInt = zwk (zk t n p2) (zw t n p2) := by rw [mx122, show x121.toInt = vch114 from by omega]; exact zkc_e (show tz_rel _ _ _ _ from ydh114) (by omega)
          have zkb := zwk_b (k := zk t n p2) (w := zw t n p2)
          refine ex_go oq_X5_readWork_98 (t := 102) rfl rfl ?_
          refine ex_isA oq_X5_readWork_102 (fun L123 gL123_2 kL123 => ?_)
          have gL123_1 : cv_get L123 1 = some (cv_i x101) := kL123 1 _ (by decide) (fun _ => rfl) gL102_1
          have gL123_0 : cv_get L123 0 = some (cv_r 50) := kL123 0 _ (by decide) (fun q => absurd q (by decide)) gL102_0
          refine ex_il oq_X5_readWork_103 gL123_2 ?_
          refine ex_ic oq_X5_readWork_104 (m := (-1)) (by decide) (fun x124 hx124 => ?_)
          refine ex_if oq_X5_readWork_105 (t := 115) rfl rfl (fun (c125 : ¬ x122.toInt = x124.toInt) => ?_) (fun (c125 : ¬ (¬ x122.toInt = x124.toInt)) => ?_)
          · refine ex_al oq_X5_readWork_115 gL123_0 ?_
            refine ex_gf oq_X5_readWork_116 Th114 (k := 50) (d := 5) rfl rfl (ri_ref (k := 50) (k' := 51) (d := 5) (f := 0) Th114 rfl rfl rfl (by decide) (ri_uniq (by decide +kernel))) ?_
            refine ex_cv oq_X5_readWork_119 (by decide) Th114 (k := 51) (d := 6) (as := []) (stk := []) rfl rfl rfl rfl rfl rfl ⟨rfl, rfl⟩ (R := fun o => ∃ hb : cv_H, o = (none, hb) ∧ cw_T G hb ∧ cw_Fr cw_Ds cw_sh kk_X6_step.2.2.2.2.2.1 h114 hb ∧ zCs t n (.inr (zx t n p2)) hb) (ct_stepC (t := t) (n := n) (p := p2) (fun i => by rw [ht, ← hA _ Fh114]) (fun i hi => by rw [hB _ Fh114]; exact hwd i hi) hn9 Th114 Sh114 (fun hb b1 b2 b3 => ⟨hb, rfl, b1, b2, b3⟩)) (fun o ho => ?_)
            obtain ⟨h126, rfl, Th126, Ch126, Sh126⟩ := ho
            show cw_X _ _ _ _ _ [] h126
            have Fh126 : cw_Fr cw_Ds cw_sh kk_X5_readWork.2.2.2.2.2.1 h0 h126 := cw_Fr_tr Fh114 (cw_Fr_mono (by decide +kernel) Ch126)
            have eh126_b_14 : ri_at h126 b 14 = (l.length : Int) := (ri_frf Ch126 (k := b) (d := 4) hb4 rfl (by decide +kernel)).trans eh114_b_14
            clear eh114_b_14
            clear yah114 ybh114 ych114 ykh114 yvh114 yfh114
            obtain ⟨pnh126, yah126, ybh126, ych126, ydh126, yfh126⟩ := zCs_at Sh126
            obtain ⟨kch126, ykh126⟩ : ∃ k, ri_at h126 51 4 = k := ⟨_, rfl⟩
            obtain ⟨vch126, yvh126⟩ : ∃ k, ri_at h126 51 6 = k := ⟨_, rfl⟩
            rw [ykh126, yvh126] at ydh126
            replace ydh126 := zhd_i ydh126
            have zlh126 := zx_le (t := t) (n := n) (p := (zx t n p2)) (by omega)
            refine ex_il oq_X5_readWork_122 gL123_2 ?_
            refine ex_cs oq_X5_readWork_123 (by decide) (as := [cv_i x122]) (stk := []) rfl rfl rfl ⟨rfl, rfl⟩ (R := fun o => ∃ x : Int32, o = (some (cv_i x), h126) ∧ x.toInt = zmc x122.toInt) (ct_mostOf x122 (fun x q => ⟨x, rfl, q⟩)) (fun o ho => ?_)
            obtain ⟨x127, rfl, mx127⟩ := ho
            show cw_X _ _ _ _ _ [cv_i x127] h126
            have zmb := zmc_b (k := x122.toInt)
            refine ex_isA oq_X5_readWork_126 (fun L128 gL128_3 kL128 => ?_)
            have gL128_2 : cv_get L128 2 = some (cv_i x122) := kL128 2 _ (by decide) (fun _ => rfl) gL123_2
            have gL128_1 : cv_get L128 1 = some (cv_i x101) := kL128 1 _ (by decide) (fun q => absurd q (by decide)) gL123_1
            have gL128_0 : cv_get L128 0 = some (cv_r 50) := kL128 0 _ (by decide) (fun q => absurd q (by decide)) gL123_0
            refine ex_al oq_X5_readWork_127 gL128_0 ?_
            refine ex_gf oq_X5_readWork_128 Th126 (k := 50) (d := 5) rfl rfl ((hPL _ Fh126).1) ?_
            refine ex_gf oq_X5_readWork_131 Th126 (k := b) (d := 4) hb4 rfl ((show cw_at h126 b 12 = some (cv_r (b + 10)) from (hPL _ Fh126).2.1 12 (by decide))) ?_
            refine ex_il oq_X5_readWork_134 gL128_1 ?_
            refine ex_il oq_X5_readWork_135 gL128_2 ?_
            refine ex_iw1 oq_X5_readWork_136 Th126 (k := (b + 10)) (d := 37) (j := l.length) hkb10 rfl (by omega) (by omega) ⟨(cw_i32 _).1, (cw_i32 _).2⟩ (fun h129 Th129 wh129 => ?_)
            have Fh129 : cw_Fr cw_Ds cw_sh kk_X5_readWork.2.2.2.2.2.1 h0 h129 := cw_Fr_tr Fh126 (cw_Fr_wrr wh129 (k := (b + 10)) (d := 37) hkb10 rfl (by decide +kernel))
            have eh129_b_14 : ri_at h129 b 14 = (l.length : Int) := (ri_ne wh129 (.inl (cw_kne (k := b) (d := 4) (k' := (b + 10)) (d' := 37) hb4 hkb10 (by decide)))).trans eh126_b_14
            clear eh126_b_14
            have Sh129 := zCs_wr (d := 37) (k := (b + 10)) wh129 hkb10 Sh126 (.inl ⟨by decide, by decide⟩)
            refine ex_al oq_X5_readWork_137 gL128_0 ?_
            refine ex_gf oq_X5_readWork_138 Th129 (k := 50) (d := 5) rfl rfl ((hPL _ Fh129).1) ?_
            refine ex_gf oq_X5_readWork_141 Th129 (k := b) (d := 4) hb4 rfl ((show cw_at h129 b 13 = some (cv_r (b + 11)) from (hPL _ Fh129).2.1 13 (by decide))) ?_
            refine ex_il oq_X5_readWork_144 gL128_1 ?_
            refine ex_il oq_X5_readWork_145 gL128_3 ?_
            refine ex_if0 oq_X5_readWork_146 (t := 158) rfl rfl (fun (c130 : x127.toInt < 0) => ?_) (fun (c130 : ¬ (x127.toInt < 0)) => ?_)
            · exfalso; omega
            · refine ex_al oq_X5_readWork_149 gL128_0 ?_
              refine ex_ic oq_X5_readWork_150 (m := 0) (by decide) (fun x131 hx131 => ?_)
              refine ex_il oq_X5_readWork_151 gL128_3 ?_
              refine ex_cv oq_X5_readWork_152 (by decide) Th129 (k := 50) (d := 5) (as := [cv_i x131, cv_i x127]) (stk := [cv_i x101, cv_r (b + 11)]) rfl rfl rfl rfl rfl rfl ⟨rfl, rfl⟩ (R := fun o => ∃ (x : Int32) (hb : cv_H), o = (some (cv_i x), hb) ∧ cw_T G hb ∧ cw_Fr cw_Ds cw_sh kk_X5_readNumber_1.2.2.2.2.2.1 h129 hb ∧ zCr t n hb x (zn t n x131.toInt x127.toInt (zx t n p2))) (ct_readNumber (t := t) (n := n) (fun i => by rw [ht, ← hA _ Fh129]) (fun i hi => by rw [hB _ Fh129]; exact hwd i hi) hn9 Th129 Sh129 x131 x127 (by omega) (by omega) (fun x hb b1 b2 b3 => ⟨x, hb, rfl, b1, b2, b3⟩)) (fun o ho => ?_)
              obtain ⟨x132, h133, rfl, Th133, Ch133, dx132⟩ := ho
              show cw_X _ _ _ _ _ [cv_i x132, cv_i x101, cv_r (b + 11)] h133
              rw [hx131, show x127.toInt = zmo (zwk (zk t n p2) (zw t n p2)) from by rw [← zkw]; omega] at dx132
              rw [E4] at dx132
              obtain ⟨wx132, Sh133⟩ := zCr_r dx132
              clear dx132
              have Fh133 : cw_Fr cw_Ds cw_sh kk_X5_readWork.2.2.2.2.2.1 h0 h133 := cw_Fr_tr Fh129 (cw_Fr_mono (by decide +kernel) Ch133)
              have eh133_b_14 : ri_at h133 b 14 = (l.length : Int) := (ri_frf Ch133 (k := b) (d := 4) hb4 rfl (by decide +kernel)).trans eh129_b_14
              clear eh129_b_14
              clear yah126 ybh126 ych126 ykh126 yvh126 yfh126
              obtain ⟨pnh133, yah133, ybh133, ych133, ydh133, yfh133⟩ := zCs_at Sh133
              obtain ⟨kch133, ykh133⟩ : ∃ k, ri_at h133 51 4 = k := ⟨_, rfl⟩
              obtain ⟨vch133, yvh133⟩ : ∃ k, ri_at h133 51 6 = k := ⟨_, rfl⟩
              rw [ykh133, yvh133] at ydh133
              replace ydh133 := zhd_i ydh133
              have zlh133 := zx_le (t := t) (n := n) (p := p3) (by omega)
              refine ex_go oq_X5_readWork_155 (t := 159) rfl rfl ?_
              refine ex_iw1 oq_X5_readWork_159 Th133 (k := (b + 11)) (d := 38) (j := l.length) hkb11 rfl (by omega) (by omega) ⟨(cw_i32 _).1, (cw_i32 _).2⟩ (fun h134 Th134 wh134 => ?_)
              have Fh134 : cw_Fr cw_Ds cw_sh kk_X5_readWork.2.2.2.2.2.1 h0 h134 := cw_Fr_tr Fh133 (cw_Fr_wrr wh134 (k := (b + 11)) (d := 38) hkb11 rfl (by decide +kernel))
              have eh134_b_14 : ri_at h134 b 14 = (l.length : Int) := (ri_ne wh134 (.inl (cw_kne (k := b) (d := 4) (k' := (b + 11)) (d' := 38) hb4 hkb11 (by decide)))).trans eh133_b_14
              clear eh133_b_14
              have Sh134 := zCs_wr (d := 38) (k := (b + 11)) wh134 hkb11 Sh133 (.inl ⟨by decide, by decide⟩)
              refine ex_al oq_X5_readWork_160 gL128_0 ?_
              refine ex_gf oq_X5_readWork_161 Th134 (k := 50) (d := 5) rfl rfl ((hPL _ Fh134).1) ?_
              refine ex_il oq_X5_readWork_164 gL128_1 ?_
              refine ex_ic oq_X5_readWork_165 (m := 1) (by decide) (fun x135 hx135 => ?_)
              refine ex_add oq_X5_readWork_166 (by omega) (fun x136 hx136 => ?_)
              refine ex_pfi oq_X5_readWork_167 Th134 (k := b) (d := 4) hb4 rfl rfl (by omega) (by omega) (fun h137 Th137 wh137 => ?_)
              have Fh137 : cw_Fr cw_Ds cw_sh kk_X5_readWork.2.2.2.2.2.1 h0 h137 := cw_Fr_tr Fh134 (cw_Fr_wrf wh137 (k := b) (d := 4) hb4 rfl (by decide +kernel))
              have eh137_b_14 : ri_at h137 b 14 = x136.toInt := ri_self wh137
              have Sh137 := zCs_wr (d := 4) (k := b) wh137 hb4 Sh134 (.inl ⟨by decide, by decide⟩)
              exact ex_retv oq_X5_readWork_170 rfl (hQ h137 Th137 Fh137 Sh137 (by omega) (zNm_end wh109 (zNm_eq hl (fun i => ((ri_frr Ch108 (k := (b + 8)) (d := 35) hkb8 rfl (by decide +kernel)).trans (ri_frr Ch106 (k := (b + 8)) (d := 35) hkb8 rfl (by decide +kernel))))) (fun i => ((ri_ne wh137 (.inl (cw_kne (k := (b + 8)) (d := 35) (k' := b) (d' := 4) hkb8 hb4 (by decide)))).trans ((ri_ne wh134 (.inl (cw_kne (k := (b + 8)) (d := 35) (k' := (b + 11)) (d' := 38) hkb8 hkb11 (by decide)))).trans ((ri_frr Ch133 (k := (b + 8)) (d := 35) hkb8 rfl (by decide +kernel)).trans ((ri_ne wh129 (.inl (cw_kne (k := (b + 8)) (d := 35) (k' := (b + 10)) (d' := 37) hkb8 hkb10 (by decide)))).trans ((ri_frr Ch126 (k := (b + 8)) (d := 35) hkb8 rfl (by decide +kernel)).trans ((ri_ne wh114 (.inl (cw_kne (k := (b + 8)) (d := 35) (k' := (b + 9)) (d' := 36) hkb8 hkb9 (by decide)))).trans (ri_frr Ch113 (k := (b + 8)) (d := 35) hkb8 rfl (by decide +kernel))))))))) (wx107)) (zNm_end (by rw [ew]; exact wh114) (zNm_eq haw (fun i => ((ri_frr Ch113 (k := (b + 9)) (d := 36) hkb9 rfl (by decide +kernel)).trans ((ri_ne wh109 (.inl (cw_kne (k := (b + 9)) (d := 36) (k' := (b + 8)) (d' := 35) hkb9 hkb8 (by decide)))).trans ((ri_frr Ch108 (k := (b + 9)) (d := 36) hkb9 rfl (by decide +kernel)).trans (ri_frr Ch106 (k := (b + 9)) (d := 36) hkb9 rfl (by decide +kernel))))))) (fun i => ((ri_ne wh137 (.inl (cw_kne (k := (b + 9)) (d := 36) (k' := b) (d' := 4) hkb9 hb4 (by decide)))).trans ((ri_ne wh134 (.inl (cw_kne (k := (b + 9)) (d := 36) (k' := (b + 11)) (d' := 38) hkb9 hkb11 (by decide)))).trans ((ri_frr Ch133 (k := (b + 9)) (d := 36) hkb9 rfl (by decide +kernel)).trans ((ri_ne wh129 (.inl (cw_kne (k := (b + 9)) (d := 36) (k' := (b + 10)) (d' := 37) hkb9 hkb10 (by decide)))).trans (ri_frr Ch126 (k := (b + 9)) (d := 36) hkb9 rfl (by decide +kernel))))))) (wx112)) (zNm_end (by rw [ek]; exact wh129) (zNm_eq hak (fun i => ((ri_frr Ch126 (k := (b + 10)) (d := 37) hkb10 rfl (by decide +kernel)).trans ((ri_ne wh114 (.inl (cw_kne (k := (b + 10)) (d := 37) (k' := (b + 9)) (d' := 36) hkb10 hkb9 (by decide)))).trans ((ri_frr Ch113 (k := (b + 10)) (d := 37) hkb10 rfl (by decide +kernel)).trans ((ri_ne wh109 (.inl (cw_kne (k := (b + 10)) (d := 37) (k' := (b + 8)) (d' := 35) hkb10 hkb8 (by decide)))).trans ((ri_frr Ch108 (k := (b + 10)) (d := 37) hkb10 rfl (by decide +kernel)).trans (ri_frr Ch106 (k := (b + 10)) (d := 37) hkb10 rfl (by decide +kernel))))))))) (fun i => ((ri_ne wh137 (.inl (cw_kne (k := (b + 10)) (d := 37) (k' := b) (d' := 4) hkb10 hb4 (by decide)))).trans ((ri_ne wh134 (.inl (cw_kne (k := (b + 10)) (d := 37) (k' := (b + 11)) (d' := 38) hkb10 hkb11 (by decide)))).trans (ri_frr Ch133 (k := (b + 10)) (d := 37) hkb10 rfl (by decide +kernel))))) (by omega)) (zNm_end (by rw [en]; exact wh134) (zNm_eq han (fun i => ((ri_frr Ch133 (k := (b + 11)) (d := 38) hkb11 rfl (by decide +kernel)).trans ((ri_ne wh129 (.inl (cw_kne (k := (b + 11)) (d := 38) (k' := (b + 10)) (d' := 37) hkb11 hkb10 (by decide)))).trans ((ri_frr Ch126 (k := (b + 11)) (d := 38) hkb11 rfl (by decide +kernel)).trans ((ri_ne wh114 (.inl (cw_kne (k := (b + 11)) (d := 38) (k' := (b + 9)) (d' := 36) hkb11 hkb9 (by decide)))).trans ((ri_frr Ch113 (k := (b + 11)) (d := 38) hkb11 rfl (by decide +kernel)).trans ((ri_ne wh109 (.inl (cw_kne (k := (b + 11)) (d := 38) (k' := (b + 8)) (d' := 35) hkb11 hkb8 (by decide)))).trans ((ri_frr Ch108 (k := (b + 11)) (d := 38) hkb11 rfl (by decide +kernel)).trans (ri_frr Ch106 (k := (b + 11)) (d := 38) hkb11 rfl (by decide +kernel))))))))))) (fun i => (ri_ne wh137 (.inl (cw_kne (k := (b + 11)) (d := 38) (k' := b) (d' := 4) hkb11 hb4 (by decide))))) (by omega)))
          · exfalso; omega
    · exfalso; omega
set_option maxHeartbeats 8000000 in
theorem ct_workDB {h0 : cv_H} {n p : Nat} (ht : ∀ i, t i = ri_at h0 1 i % 256) (hwd : ∀ i, i < 34 → ri_at h0 52 i = tz_wc.getD i 0) (hn9 : n ≤ 900) (hT : cw_T G h0) {b : Nat} (hb : b = 2 ∨ b = 26) (hpl : zPL b h0) (hS : zCs t n (.inr p) h0) {l : List Int} (hc : ri_at h0 b 14 = l.length) (hlm : l.length < 6) (hl : zNm h0 (b + 8) 0 l) {nm w k : Int} {p1 p2 p3 : Nat} (E1 : zm t n l (zx t n p) = .inr (nm, p1)) (E2 : zn t n 1 999 p1 = .inr (w, p2)) (E3 : 0 ≤ zwk (zk t n p2) (zw t n p2)) (E3b : zwk (zk t n p2) (zw t n p2) ≤ 1) (hk : k = 0) (hp3 : p3 = zx t n p2) {aw ak an : List Int} (ew : aw.length = l.length) (ek : ak.length = l.length) (en : an.length = l.length) (haw : zNm h0 (b + 9) 0 aw) (hak : zNm h0 (b + 10) 0 ak) (han : zNm h0 (b + 11) 0 an)
    (hQ : ∀ h', cw_T G h' → cw_Fr cw_Ds cw_sh kk_X5_readWork.2.2.2.2.2.1 h0 h' → zCs t n (.inr p3) h' → ri_at h' b 14 = l.length + 1 → zNm h' (b + 8) 0 (l ++ [nm]) → zNm h' (b + 9) 0 (aw ++ [w]) → zNm h' (b + 10) 0 (ak ++ [zwk (zk t n p2) (zw t n p2)]) → zNm h' (b + 11) 0 (an ++ [k]) → Q (none, h')) : cw_X X 71 Q 0 (cv_ent 0 [cv_r 50]) [] h0 := by
  subst hp3
  have Fh0 : cw_Fr cw_Ds cw_sh kk_X5_readWork.2.2.2.2.2.1 h0 h0 := cw_Fr_refl
  have hA : ∀ h, cw_Fr cw_Ds cw_sh kk_X5_readWork.2.2.2.2.2.1 h0 h → ∀ i, ri_at h 1 i = ri_at h0 1 i := fun h F i => ri_frr F (k := 1) (d := 13) rfl rfl (by decide +kernel)
  have hB : ∀ h, cw_Fr cw_Ds cw_sh kk_X5_readWork.2.2.2.2.2.1 h0 h → ∀ i, ri_at h 52 i = ri_at h0 52 i := fun h F i => ri_frr F (k := 52) (d := 43) rfl rfl (by decide +kernel)
  have hPL : ∀ h, cw_Fr cw_Ds cw_sh kk_X5_readWork.2.2.2.2.2.1 h0 h → zPL b h := fun h F => zPL_fr hb F (by decide +kernel) hpl
  have hb4 : cw_sh[b]? = some 4 := by rcases hb with rfl | rfl <;> rfl
  have hkb1 : cw_sh[b + 1]? = some 28 := by rcases hb with rfl | rfl <;> rfl
  have hkb2 : cw_sh[b + 2]? = some 29 := by rcases hb with rfl | rfl <;> rfl
  have hkb3 : cw_sh[b + 3]? = some 30 := by rcases hb with rfl | rfl <;> rfl
  have hkb4 : cw_sh[b + 4]? = some 31 := by rcases hb with rfl | rfl <;> rfl
  have hkb5 : cw_sh[b + 5]? = some 32 := by rcases hb with rfl | rfl <;> rfl
  have hkb6 : cw_sh[b + 6]? = some 33 := by rcases hb with rfl | rfl <;> rfl
  have hkb7 : cw_sh[b + 7]? = some 34 := by rcases hb with rfl | rfl <;> rfl
  have hkb8 : cw_sh[b + 8]? = some 35 := by rcases hb with rfl | rfl <;> rfl
  have hkb9 : cw_sh[b + 9]? = some 36 := by rcases hb with rfl | rfl <;> rfl
  have hkb10 : cw_sh[b + 10]? = some 37 := by rcases hb with rfl | rfl <;> rfl
  have hkb11 : cw_sh[b + 11]? = some 38 := by rcases hb with rfl | rfl <;> rfl
  have hkb12 : cw_sh[b + 12]? = some 39 := by rcases hb with rfl | rfl <;> rfl
  have hkb13 : cw_sh[b + 13]? = some 40 := by rcases hb with rfl | rfl <;> rfl
  have hkb14 : cw_sh[b + 14]? = some 41 := by rcases hb with rfl | rfl <;> rfl
  have hkb15 : cw_sh[b + 15]? = some 42 := by rcases hb with rfl | rfl <;> rfl
  refine ex_al oq_X5_readWork_0 rfl ?_
  refine ex_gf oq_X5_readWork_1 hT (k := 50) (d := 5) rfl rfl ((hPL _ Fh0).1) ?_
  obtain ⟨x101, ax101, rx101, lx101, ux101⟩ := ri_fld (k := b) (d := 4) (f := 14) hT hb4 rfl rfl
  try dsimp only at lx101 ux101
  refine ex_gf oq_X5_readWork_4 hT (k := b) (d := 4) hb4 rfl ax101 ?_
  have rx101 := (rx101.symm.trans hc : x101.toInt = (l.length : Int))
  refine ex_isA oq_X5_readWork_7 (fun L102 gL102_1 kL102 => ?_)
  have gL102_0 : cv_get L102 0 = some (cv_r 50) := kL102 0 _ (by decide) (fun _ => rfl) rfl
  refine ex_il oq_X5_readWork_8 gL102_1 ?_
  refine ex_if0 oq_X5_readWork_9 (t := 18) rfl rfl (fun (c103 : x101.toInt < 0) => ?_) (fun (c103 : ¬ (x101.toInt < 0)) => ?_)
  · exfalso; omega
  · refine ex_il oq_X5_readWork_12 gL102_1 ?_
    refine ex_bi oq_X5_readWork_13 (m := 6) (by decide) (fun x104 hx104 => ?_)
    refine ex_if oq_X5_readWork_15 (t := 25) rfl rfl (fun (c105 : x101.toInt < x104.toInt) => ?_) (fun (c105 : ¬ (x101.toInt < x104.toInt)) => ?_)
    · refine ex_al oq_X5_readWork_25 gL102_0 ?_
      refine ex_gf oq_X5_readWork_26 hT (k := 50) (d := 5) rfl rfl (ri_ref (k := 50) (k' := 51) (d := 5) (f := 0) hT rfl rfl rfl (by decide) (ri_uniq (by decide +kernel))) ?_
      refine ex_cv oq_X5_readWork_29 (by decide) hT (k := 51) (d := 6) (as := []) (stk := []) rfl rfl rfl rfl rfl rfl ⟨rfl, rfl⟩ (R := fun o => ∃ hb : cv_H, o = (none, hb) ∧ cw_T G hb ∧ cw_Fr cw_Ds cw_sh kk_X6_step.2.2.2.2.2.1 h0 hb ∧ zCs t n (.inr (zx t n p)) hb) (ct_stepC (t := t) (n := n) (p := p) (fun i => by rw [ht, ← hA _ Fh0]) (fun i hi => by rw [hB _ Fh0]; exact hwd i hi) hn9 hT hS (fun hb b1 b2 b3 => ⟨hb, rfl, b1, b2, b3⟩)) (fun o ho => ?_)
      obtain ⟨h106, rfl, Th106, Ch106, Sh106⟩ := ho
      show cw_X _ _ _ _ _ [] h106
      have Fh106 : cw_Fr cw_Ds cw_sh kk_X5_readWork.2.2.2.2.2.1 h0 h106 := cw_Fr_tr Fh0 (cw_Fr_mono (by decide +kernel) Ch106)
      have eh106_b_14 : ri_at h106 b 14 = (l.length : Int) := (ri_frf Ch106 (k := b) (d := 4) hb4 rfl (by decide +kernel)).trans hc
      obtain ⟨pnh106, yah106, ybh106, ych106, ydh106, yfh106⟩ := zCs_at Sh106
      obtain ⟨kch106, ykh106⟩ : ∃ k, ri_at h106 51 4 = k := ⟨_, rfl⟩
      obtain ⟨vch106, yvh106⟩ : ∃ k, ri_at h106 51 6 = k := ⟨_, rfl⟩
      rw [ykh106, yvh106] at ydh106
      replace ydh106 := zhd_i ydh106
      have zlh106 := zx_le (t := t) (n := n) (p := (zx t n p)) (by omega)
      refine ex_al oq_X5_readWork_32 gL102_0 ?_
      refine ex_gf oq_X5_readWork_33 Th106 (k := 50) (d := 5) rfl rfl ((hPL _ Fh106).1) ?_
      refine ex_gf oq_X5_readWork_36 Th106 (k := b) (d := 4) hb4 rfl ((show cw_at h106 b 10 = some (cv_r (b + 8)) from (hPL _ Fh106).2.1 10 (by decide))) ?_
      refine ex_il oq_X5_readWork_39 gL102_1 ?_
      refine ex_al oq_X5_readWork_40 gL102_0 ?_
      refine ex_al oq_X5_readWork_41 gL102_0 ?_
      refine ex_gf oq_X5_readWork_42 Th106 (k := 50) (d := 5) rfl rfl ((hPL _ Fh106).1) ?_
      refine ex_gf oq_X5_readWork_45 Th106 (k := b) (d := 4) hb4 rfl ((show cw_at h106 b 10 = some (cv_r (b + 8)) from (hPL _ Fh106).2.1 10 (by decide))) ?_
      refine ex_il oq_X5_readWork_48 gL102_1 ?_
      have hlh106 : zNm h106 (b + 8) 0 l := zNm_eq hl (fun i => (ri_frr Ch106 (k := (b + 8)) (d := 35) hkb8 rfl (by decide +kernel)))
      refine ex_cv oq_X5_readWork_49 (by decide) Th106 (k := 50) (d := 5) (as := [cv_r (b + 8), cv_i x101]) (stk := [cv_i x101, cv_r (b + 8)]) rfl rfl rfl rfl rfl rfl ⟨rfl, rfl⟩ (R := fun o => ∃ (x : Int32) (hb : cv_H), o = (some (cv_i x), hb) ∧ cw_T G hb ∧ cw_Fr cw_Ds cw_sh kk_X5_readNewName_1.2.2.2.2.2.1 h106 hb ∧ zCr t n hb x (zm t n l (zx t n p))) (ct_nameSW (t := t) (n := n) (l := l) hb (fun i => by rw [ht, ← hA _ Fh106]) (fun i hi => by rw [hB _ Fh106]; exact hwd i hi) hn9 Th106 (by omega) (by omega) hlh106 Sh106 (fun x hb b1 b2 b3 => ⟨x, hb, rfl, b1, b2, b3⟩)) (fun o ho => ?_)
      obtain ⟨x107, h108, rfl, Th108, Ch108, dx107⟩ := ho
      show cw_X _ _ _ _ _ [cv_i x107, cv_i x101, cv_r (b + 8)] h108
      rw [E1] at dx107
      obtain ⟨wx107, Sh108⟩ := zCr_r dx107
      clear dx107
      have Fh108 : cw_Fr cw_Ds cw_sh kk_X5_readWork.2.2.2.2.2.1 h0 h108 := cw_Fr_tr Fh106 (cw_Fr_mono (by decide +kernel) Ch108)
      have eh108_b_14 : ri_at h108 b 14 = (l.length : Int) := (ri_frf Ch108 (k := b) (d := 4) hb4 rfl (by decide +kernel)).trans eh106_b_14
      clear eh106_b_14
      clear yah106 ybh106 ych106 ykh106 yvh106 yfh106
      obtain ⟨pnh108, yah108, ybh108, ych108, ydh108, yfh108⟩ := zCs_at Sh108
      obtain ⟨kch108, ykh108⟩ : ∃ k, ri_at h108 51 4 = k := ⟨_, rfl⟩
      obtain ⟨vch108, yvh108⟩ : ∃ k, ri_at h108 51 6 = k := ⟨_, rfl⟩
      rw [ykh108, yvh108] at ydh108
      replace ydh108 := zhd_i ydh108
      have zlh108 := zx_le (t := t) (n := n) (p := p1) (by omega)
      refine ex_iw1 oq_X5_readWork_52 Th108 (k := (b + 8)) (d := 35) (j := l.length) hkb8 rfl (by omega) (by omega) ⟨(cw_i32 _).1, (cw_i32 _).2⟩ (fun h109 Th109 wh109 => ?_)
      have Fh109 : cw_Fr cw_Ds cw_sh kk_X5_readWork.2.2.2.2.2.1 h0 h109 := cw_Fr_tr Fh108 (cw_Fr_wrr wh109 (k := (b + 8)) (d := 35) hkb8 rfl (by decide +kernel))
      have eh109_b_14 : ri_at h109 b 14 = (l.length : Int) := (ri_ne wh109 (.inl (cw_kne (k := b) (d := 4) (k' := (b + 8)) (d' := 35) hb4 hkb8 (by decide)))).trans eh108_b_14
      clear eh108_b_14
      have Sh109 := zCs_wr (d := 35) (k := (b + 8)) wh109 hkb8 Sh108 (.inl ⟨by decide, by decide⟩)
      refine ex_al oq_X5_readWork_53 gL102_0 ?_
      refine ex_gf oq_X5_readWork_54 Th109 (k := 50) (d := 5) rfl rfl ((hPL _ Fh109).1) ?_
      refine ex_gf oq_X5_readWork_57 Th109 (k := b) (d := 4) hb4 rfl ((show cw_at h109 b 11 = some (cv_r (b + 9)) from (hPL _ Fh109).2.1 11 (by decide))) ?_
      refine ex_il oq_X5_readWork_60 gL102_1 ?_
      refine ex_al oq_X5_readWork_61 gL102_0 ?_
      refine ex_ic oq_X5_readWork_62 (m := 1) (by decide) (fun x110 hx110 => ?_)
      refine ex_si oq_X5_readWork_63 (m := 999) (by decide) (fun x111 hx111 => ?_)
      refine ex_cv oq_X5_readWork_66 (by decide) Th109 (k := 50) (d := 5) (as := [cv_i x110, cv_i x111]) (stk := [cv_i x101, cv_r (b + 9)]) rfl rfl rfl rfl rfl rfl ⟨rfl, rfl⟩ (R := fun o => ∃ (x : Int32) (hb : cv_H), o = (some (cv_i x), hb) ∧ cw_T G hb ∧ cw_Fr cw_Ds cw_sh kk_X5_readNumber_1.2.2.2.2.2.1 h109 hb ∧ zCr t n hb x (zn t n x110.toInt x111.toInt p1)) (ct_readNumber (t := t) (n := n) (fun i => by rw [ht, ← hA _ Fh109]) (fun i hi => by rw [hB _ Fh109]; exact hwd i hi) hn9 Th109 Sh109 x110 x111 (by omega) (by omega) (fun x hb b1 b2 b3 => ⟨x, hb, rfl, b1, b2, b3⟩)) (fun o ho => ?_)
      obtain ⟨x112, h113, rfl, Th113, Ch113, dx112⟩ := ho
      show cw_X _ _ _ _ _ [cv_i x112, cv_i x101, cv_r (b + 9)] h113
      rw [hx110, hx111] at dx112
      rw [E2] at dx112
      obtain ⟨wx112, Sh113⟩ := zCr_r dx112
      clear dx112
      have Fh113 : cw_Fr cw_Ds cw_sh kk_X5_readWork.2.2.2.2.2.1 h0 h113 := cw_Fr_tr Fh109 (cw_Fr_mono (by decide +kernel) Ch113)
      have eh113_b_14 : ri_at h113 b 14 = (l.length : Int) := (ri_frf Ch113 (k := b) (d := 4) hb4 rfl (by decide +kernel)).trans eh109_b_14
      clear eh109_b_14
      clear yah108 ybh108 ych108 ykh108 yvh108 yfh108
      obtain ⟨pnh113, yah113, ybh113, ych113, ydh113, yfh113⟩ := zCs_at Sh113
      obtain ⟨kch113, ykh113⟩ : ∃ k, ri_at h113 51 4 = k := ⟨_, rfl⟩
      obtain ⟨vch113, yvh113⟩ : ∃ k, ri_at h113 51 6 = k := ⟨_, rfl⟩
      rw [ykh113, yvh113] at ydh113
      replace ydh113 := zhd_i ydh113
      have zlh113 := zx_le (t := t) (n := n) (p := p2) (by omega)
      refine ex_iw1 oq_X5_readWork_69 Th113 (k := (b + 9)) (d := 36) (j := l.length) hkb9 rfl (by omega) (by omega) ⟨(cw_i32 _).1, (cw_i32 _).2⟩ (fun h114 Th114 wh114 => ?_)
      have Fh114 : cw_Fr cw_Ds cw_sh kk_X5_readWork.2.2.2.2.2.1 h0 h114 := cw_Fr_tr Fh113 (cw_Fr_wrr wh114 (k := (b + 9)) (d := 36) hkb9 rfl (by decide +kernel))
      have eh114_b_14 : ri_at h114 b 14 = (l.length : Int) := (ri_ne wh114 (.inl (cw_kne (k := b) (d := 4) (k' := (b + 9)) (d' := 36) hb4 hkb9 (by decide)))).trans eh113_b_14
      clear eh113_b_14
      have Sh114 := zCs_wr (d := 36) (k := (b + 9)) wh114 hkb9 Sh113 (.inl ⟨by decide, by decide⟩)
      refine ex_al oq_X5_readWork_70 gL102_0 ?_
      clear yah113 ybh113 ych113 ykh113 yvh113 yfh113
      obtain ⟨pnh114, yah114, ybh114, ych114, ydh114, yfh114⟩ := zCs_at Sh114
      obtain ⟨kch114, ykh114⟩ : ∃ k, ri_at h114 51 4 = k := ⟨_, rfl⟩
      obtain ⟨vch114, yvh114⟩ : ∃ k, ri_at h114 51 6 = k := ⟨_, rfl⟩
      rw [ykh114, yvh114] at ydh114
      replace ydh114 := zhd_i ydh114
      have zlh114 := zx_le (t := t) (n := n) (p := p2) (by omega)
      obtain ⟨x115, ax115, rx115, lx115, ux115⟩ := ri_fld (k := 50) (d := 5) (f := 4) Th114 rfl rfl rfl
      try dsimp only at lx115 ux115
      refine ex_gf oq_X5_readWork_71 Th114 (k := 50) (d := 5) rfl rfl ax115 ?_
      clear lx115 ux115
      have rx115 := (rx115.symm.trans yfh114 : x115.toInt = 0)
      refine ex_if0 oq_X5_readWork_74 (t := 101) rfl rfl (fun (c116 : ¬ x115.toInt = 0) => ?_) (fun (c116 : ¬ (¬ x115.toInt = 0)) => ?_)
      · exfalso; omega
      · have zk1 : zk t n p2 = 1 := zwk_1 (w := zw t n p2) (by omega)
        have rl117 := rl_pw (show tz_rel _ _ _ _ from ydh114)
        refine ex_al oq_X5_readWork_77 gL102_0 ?_
        refine ex_gf oq_X5_readWork_78 Th114 (k := 50) (d := 5) rfl rfl (ri_ref (k := 50) (k' := 51) (d := 5) (f := 0) Th114 rfl rfl rfl (by decide) (ri_uniq (by decide +kernel))) ?_
        obtain ⟨x118, ax118, rx118, lx118, ux118⟩ := ri_fld (k := 51) (d := 6) (f := 4) Th114 rfl rfl rfl
        try dsimp only at lx118 ux118
        refine ex_gf oq_X5_readWork_81 Th114 (k := 51) (d := 6) rfl rfl ax118 ?_
        clear lx118 ux118
        have rx118 := (rx118.symm.trans ykh114 : x118.toInt = kch114)
        refine ex_ic oq_X5_readWork_84 (m := 2) (by decide) (fun x119 hx119 => ?_)
        refine ex_if oq_X5_readWork_85 (t := 101) rfl rfl (fun (c120 : ¬ x118.toInt = x119.toInt) => ?_) (fun (c120 : ¬ (¬ x118.toInt = x119.toInt)) => ?_)
        · exfalso; omega
        · refine ex_al oq_X5_readWork_88 gL102_0 ?_
          refine ex_gf oq_X5_readWork_89 Th114 (k := 50) (d := 5) rfl rfl (ri_ref (k := 50) (k' := 51) (d := 5) (f := 0) Th114 rfl rfl rfl (by decide) (ri_uniq (by decide +kernel))) ?_
          obtain ⟨x121, ax121, rx121, lx121, ux121⟩ := ri_fld (k := 51) (d := 6) (f := 6) Th114 rfl rfl rfl
          try dsimp only at lx121 ux121
          refine ex_gf oq_X5_readWork_92 Th114 (k := 51) (d := 6) rfl rfl ax121 ?_
          clear lx121 ux121
          have rx121 := (rx121.symm.trans yvh114 : x121.toInt = vch114)
          refine ex_cs oq_X5_readWork_95 (by decide) (as := [cv_i x121]) (stk := []) rfl rfl rfl ⟨rfl, rfl⟩ (R := fun o => ∃ x : Int32, o = (some (cv_i x), h114) ∧ x.toInt = zkc x121.toInt) (ct_kindOf x121 (fun x q => ⟨x, rfl, q⟩)) (fun o ho => ?_)
          obtain ⟨x122, rfl, mx122⟩ := ho
          show cw_X _ _ _ _ _ [cv_i x122] h114
          have zkw : x122.toInt = zwk (zk t n p2) (zw t n p2) := by rw [mx122, show x121.toInt = vch114 from by omega]; exact zkc_e (show tz_rel _ _ _ _ from ydh114) (by omega)
          have zkb := zwk_b (k := zk t n p2) (w := zw t n p2)
          refine ex_go oq_X5_readWork_98 (t := 102) rfl rfl ?_
          refine ex_isA oq_X5_readWork_102 (fun L123 gL123_2 kL123 => ?_)
          have gL123_1 : cv_get L123 1 = some (cv_i x101) := kL123 1 _ (by decide) (fun _ => rfl) gL102_1
          have gL123_0 : cv_get L123 0 = some (cv_r 50) := kL123 0 _ (by decide) (fun q => absurd q (by decide)) gL102_0
          refine ex_il oq_X5_readWork_103 gL123_2 ?_
          refine ex_ic oq_X5_readWork_104 (m := (-1)) (by decide) (fun x124 hx124 => ?_)
          refine ex_if oq_X5_readWork_105 (t := 115) rfl rfl (fun (c125 : ¬ x122.toInt = x124.toInt) => ?_) (fun (c125 : ¬ (¬ x122.toInt = x124.toInt)) => ?_)
          · refine ex_al oq_X5_readWork_115 gL123_0 ?_
            refine ex_gf oq_X5_readWork_116 Th114 (k := 50) (d := 5) rfl rfl (ri_ref (k := 50) (k' := 51) (d := 5) (f := 0) Th114 rfl rfl rfl (by decide) (ri_uniq (by decide +kernel))) ?_
            refine ex_cv oq_X5_readWork_119 (by decide) Th114 (k := 51) (d := 6) (as := []) (stk := []) rfl rfl rfl rfl rfl rfl ⟨rfl, rfl⟩ (R := fun o => ∃ hb : cv_H, o = (none, hb) ∧ cw_T G hb ∧ cw_Fr cw_Ds cw_sh kk_X6_step.2.2.2.2.2.1 h114 hb ∧ zCs t n (.inr (zx t n p2)) hb) (ct_stepC (t := t) (n := n) (p := p2) (fun i => by rw [ht, ← hA _ Fh114]) (fun i hi => by rw [hB _ Fh114]; exact hwd i hi) hn9 Th114 Sh114 (fun hb b1 b2 b3 => ⟨hb, rfl, b1, b2, b3⟩)) (fun o ho => ?_)
            obtain ⟨h126, rfl, Th126, Ch126, Sh126⟩ := ho
            show cw_X _ _ _ _ _ [] h126
            have Fh126 : cw_Fr cw_Ds cw_sh kk_X5_readWork.2.2.2.2.2.1 h0 h126 := cw_Fr_tr Fh114 (cw_Fr_mono (by decide +kernel) Ch126)
            have eh126_b_14 : ri_at h126 b 14 = (l.length : Int) := (ri_frf Ch126 (k := b) (d := 4) hb4 rfl (by decide +kernel)).trans eh114_b_14
            clear eh114_b_14
            clear yah114 ybh114 ych114 ykh114 yvh114 yfh114
            obtain ⟨pnh126, yah126, ybh126, ych126, ydh126, yfh126⟩ := zCs_at Sh126
            obtain ⟨kch126, ykh126⟩ : ∃ k, ri_at h126 51 4 = k := ⟨_, rfl⟩
            obtain ⟨vch126, yvh126⟩ : ∃ k, ri_at h126 51 6 = k := ⟨_, rfl⟩
            rw [ykh126, yvh126] at ydh126
            replace ydh126 := zhd_i ydh126
            have zlh126 := zx_le (t := t) (n := n) (p := (zx t n p2)) (by omega)
            refine ex_il oq_X5_readWork_122 gL123_2 ?_
            refine ex_cs oq_X5_readWork_123 (by decide) (as := [cv_i x122]) (stk := []) rfl rfl rfl ⟨rfl, rfl⟩ (R := fun o => ∃ x : Int32, o = (some (cv_i x), h126) ∧ x.toInt = zmc x122.toInt) (ct_mostOf x122 (fun x q => ⟨x, rfl, q⟩)) (fun o ho => ?_)
            obtain ⟨x127, rfl, mx127⟩ := ho
            show cw_X _ _ _ _ _ [cv_i x127] h126
            have zmb := zmc_b (k := x122.toInt)
            refine ex_isA oq_X5_readWork_126 (fun L128 gL128_3 kL128 => ?_)
            have gL128_2 : cv_get L128 2 = some (cv_i x122) := kL128 2 _ (by decide) (fun _ => rfl) gL123_2
            have gL128_1 : cv_get L128 1 = some (cv_i x101) := kL128 1 _ (by decide) (fun q => absurd q (by decide)) gL123_1
            have gL128_0 : cv_get L128 0 = some (cv_r 50) := kL128 0 _ (by decide) (fun q => absurd q (by decide)) gL123_0
            refine ex_al oq_X5_readWork_127 gL128_0 ?_
            refine ex_gf oq_X5_readWork_128 Th126 (k := 50) (d := 5) rfl rfl ((hPL _ Fh126).1) ?_
            refine ex_gf oq_X5_readWork_131 Th126 (k := b) (d := 4) hb4 rfl ((show cw_at h126 b 12 = some (cv_r (b + 10)) from (hPL _ Fh126).2.1 12 (by decide))) ?_
            refine ex_il oq_X5_readWork_134 gL128_1 ?_
            refine ex_il oq_X5_readWork_135 gL128_2 ?_
            refine ex_iw1 oq_X5_readWork_136 Th126 (k := (b + 10)) (d := 37) (j := l.length) hkb10 rfl (by omega) (by omega) ⟨(cw_i32 _).1, (cw_i32 _).2⟩ (fun h129 Th129 wh129 => ?_)
            have Fh129 : cw_Fr cw_Ds cw_sh kk_X5_readWork.2.2.2.2.2.1 h0 h129 := cw_Fr_tr Fh126 (cw_Fr_wrr wh129 (k := (b + 10)) (d := 37) hkb10 rfl (by decide +kernel))
            have eh129_b_14 : ri_at h129 b 14 = (l.length : Int) := (ri_ne wh129 (.inl (cw_kne (k := b) (d := 4) (k' := (b + 10)) (d' := 37) hb4 hkb10 (by decide)))).trans eh126_b_14
            clear eh126_b_14
            have Sh129 := zCs_wr (d := 37) (k := (b + 10)) wh129 hkb10 Sh126 (.inl ⟨by decide, by decide⟩)
            refine ex_al oq_X5_readWork_137 gL128_0 ?_
            refine ex_gf oq_X5_readWork_138 Th129 (k := 50) (d := 5) rfl rfl ((hPL _ Fh129).1) ?_
            refine ex_gf oq_X5_readWork_141 Th129 (k := b) (d := 4) hb4 rfl ((show cw_at h129 b 13 = some (cv_r (b + 11)) from (hPL _ Fh129).2.1 13 (by decide))) ?_
            refine ex_il oq_X5_readWork_144 gL128_1 ?_
            refine ex_il oq_X5_readWork_145 gL128_3 ?_
            refine ex_if0 oq_X5_readWork_146 (t := 158) rfl rfl (fun (c130 : x127.toInt < 0) => ?_) (fun (c130 : ¬ (x127.toInt < 0)) => ?_)
            · refine ex_ic oq_X5_readWork_158 (m := 0) (by decide) (fun x131 hx131 => ?_)
              refine ex_iw1 oq_X5_readWork_159 Th129 (k := (b + 11)) (d := 38) (j := l.length) hkb11 rfl (by omega) (by omega) ⟨(cw_i32 _).1, (cw_i32 _).2⟩ (fun h132 Th132 wh132 => ?_)
              have Fh132 : cw_Fr cw_Ds cw_sh kk_X5_readWork.2.2.2.2.2.1 h0 h132 := cw_Fr_tr Fh129 (cw_Fr_wrr wh132 (k := (b + 11)) (d := 38) hkb11 rfl (by decide +kernel))
              have eh132_b_14 : ri_at h132 b 14 = (l.length : Int) := (ri_ne wh132 (.inl (cw_kne (k := b) (d := 4) (k' := (b + 11)) (d' := 38) hb4 hkb11 (by decide)))).trans eh129_b_14
              clear eh129_b_14
              have Sh132 := zCs_wr (d := 38) (k := (b + 11)) wh132 hkb11 Sh129 (.inl ⟨by decide, by decide⟩)
              refine ex_al oq_X5_readWork_160 gL128_0 ?_
              refine ex_gf oq_X5_readWork_161 Th132 (k := 50) (d := 5) rfl rfl ((hPL _ Fh132).1) ?_
              refine ex_il oq_X5_readWork_164 gL128_1 ?_
              refine ex_ic oq_X5_readWork_165 (m := 1) (by decide) (fun x133 hx133 => ?_)
              refine ex_add oq_X5_readWork_166 (by omega) (fun x134 hx134 => ?_)
              refine ex_pfi oq_X5_readWork_167 Th132 (k := b) (d := 4) hb4 rfl rfl (by omega) (by omega) (fun h135 Th135 wh135 => ?_)
              have Fh135 : cw_Fr cw_Ds cw_sh kk_X5_readWork.2.2.2.2.2.1 h0 h135 := cw_Fr_tr Fh132 (cw_Fr_wrf wh135 (k := b) (d := 4) hb4 rfl (by decide +kernel))
              have eh135_b_14 : ri_at h135 b 14 = x134.toInt := ri_self wh135
              have Sh135 := zCs_wr (d := 4) (k := b) wh135 hb4 Sh132 (.inl ⟨by decide, by decide⟩)
              exact ex_retv oq_X5_readWork_170 rfl (hQ h135 Th135 Fh135 Sh135 (by omega) (zNm_end wh109 (zNm_eq hl (fun i => ((ri_frr Ch108 (k := (b + 8)) (d := 35) hkb8 rfl (by decide +kernel)).trans (ri_frr Ch106 (k := (b + 8)) (d := 35) hkb8 rfl (by decide +kernel))))) (fun i => ((ri_ne wh135 (.inl (cw_kne (k := (b + 8)) (d := 35) (k' := b) (d' := 4) hkb8 hb4 (by decide)))).trans ((ri_ne wh132 (.inl (cw_kne (k := (b + 8)) (d := 35) (k' := (b + 11)) (d' := 38) hkb8 hkb11 (by decide)))).trans ((ri_ne wh129 (.inl (cw_kne (k := (b + 8)) (d := 35) (k' := (b + 10)) (d' := 37) hkb8 hkb10 (by decide)))).trans ((ri_frr Ch126 (k := (b + 8)) (d := 35) hkb8 rfl (by decide +kernel)).trans ((ri_ne wh114 (.inl (cw_kne (k := (b + 8)) (d := 35) (k' := (b + 9)) (d' := 36) hkb8 hkb9 (by decide)))).trans (ri_frr Ch113 (k := (b + 8)) (d := 35) hkb8 rfl (by decide +kernel)))))))) (wx107)) (zNm_end (by rw [ew]; exact wh114) (zNm_eq haw (fun i => ((ri_frr Ch113 (k := (b + 9)) (d := 36) hkb9 rfl (by decide +kernel)).trans ((ri_ne wh109 (.inl (cw_kne (k := (b + 9)) (d := 36) (k' := (b + 8)) (d' := 35) hkb9 hkb8 (by decide)))).trans ((ri_frr Ch108 (k := (b + 9)) (d := 36) hkb9 rfl (by decide +kernel)).trans (ri_frr Ch106 (k := (b + 9)) (d := 36) hkb9 rfl (by decide +kernel))))))) (fun i => ((ri_ne wh135 (.inl (cw_kne (k := (b + 9)) (d := 36) (k' := b) (d' := 4) hkb9 hb4 (by decide)))).trans ((ri_ne wh132 (.inl (cw_kne (k := (b + 9)) (d := 36) (k' := (b + 11)) (d' := 38) hkb9 hkb11 (by decide)))).trans ((ri_ne wh129 (.inl (cw_kne (k := (b + 9)) (d := 36) (k' := (b + 10)) (d' := 37) hkb9 hkb10 (by decide)))).trans (ri_frr Ch126 (k := (b + 9)) (d := 36) hkb9 rfl (by decide +kernel)))))) (wx112)) (zNm_end (by rw [ek]; exact wh129) (zNm_eq hak (fun i => ((ri_frr Ch126 (k := (b + 10)) (d := 37) hkb10 rfl (by decide +kernel)).trans ((ri_ne wh114 (.inl (cw_kne (k := (b + 10)) (d := 37) (k' := (b + 9)) (d' := 36) hkb10 hkb9 (by decide)))).trans ((ri_frr Ch113 (k := (b + 10)) (d := 37) hkb10 rfl (by decide +kernel)).trans ((ri_ne wh109 (.inl (cw_kne (k := (b + 10)) (d := 37) (k' := (b + 8)) (d' := 35) hkb10 hkb8 (by decide)))).trans ((ri_frr Ch108 (k := (b + 10)) (d := 37) hkb10 rfl (by decide +kernel)).trans (ri_frr Ch106 (k := (b + 10)) (d := 37) hkb10 rfl (by decide +kernel))))))))) (fun i => ((ri_ne wh135 (.inl (cw_kne (k := (b + 10)) (d := 37) (k' := b) (d' := 4) hkb10 hb4 (by decide)))).trans (ri_ne wh132 (.inl (cw_kne (k := (b + 10)) (d := 37) (k' := (b + 11)) (d' := 38) hkb10 hkb11 (by decide)))))) (by omega)) (zNm_end (by rw [en]; exact wh132) (zNm_eq han (fun i => ((ri_ne wh129 (.inl (cw_kne (k := (b + 11)) (d := 38) (k' := (b + 10)) (d' := 37) hkb11 hkb10 (by decide)))).trans ((ri_frr Ch126 (k := (b + 11)) (d := 38) hkb11 rfl (by decide +kernel)).trans ((ri_ne wh114 (.inl (cw_kne (k := (b + 11)) (d := 38) (k' := (b + 9)) (d' := 36) hkb11 hkb9 (by decide)))).trans ((ri_frr Ch113 (k := (b + 11)) (d := 38) hkb11 rfl (by decide +kernel)).trans ((ri_ne wh109 (.inl (cw_kne (k := (b + 11)) (d := 38) (k' := (b + 8)) (d' := 35) hkb11 hkb8 (by decide)))).trans ((ri_frr Ch108 (k := (b + 11)) (d := 38) hkb11 rfl (by decide +kernel)).trans (ri_frr Ch106 (k := (b + 11)) (d := 38) hkb11 rfl (by decide +kernel)))))))))) (fun i => (ri_ne wh135 (.inl (cw_kne (k := (b + 11)) (d := 38) (k' := b) (d' := 4) hkb11 hb4 (by decide))))) (by omega)))
            · exfalso; omega
          · exfalso; omega
    · exfalso; omega
end TZ
