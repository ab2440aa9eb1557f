/-! ===== a gate, what its line tells: the reference ===== -/
section TZ
variable {G : Int} {X : cv_X} {Q : cv_O → Prop} {t : Nat → Int}
set_option maxHeartbeats 8000000 in
theorem rt_causeD {h0 : cv_H} {n p : Nat} (ht : ∀ i, i < n → t i = ri_at h0 112 i) (hn9 : n ≤ 900) (hT : cw_T G h0) (hwr : ∀ i, i < 177 → ri_at h0 113 i = pp_words.getD i 0) (hpn : p ≤ n) (hz : zR t n p h0) {b u : Nat} {g : Int32} (hg : g.toInt = b) (hb : b + 16 ≤ 128) (hu : u ≤ 3) (hgr : ri_at h0 111 16 = u) {hh : Int} (hg1 : ri_at h0 119 (b + 1) = hh) (hh2 : 24 ≤ hh ∧ hh ≤ 72) {D : Nat → Int} (hD : zKR h0 b u D) {cn : List Int} (hcc : ri_at h0 111 18 = cn.length) (hc6 : cn.length ≤ 6) (hcl : ∀ k, k < cn.length → ri_at h0 123 (6 + k) = cn.getD k 0) {cm : Nat} (hg14 : ri_at h0 119 (b + 14) = cm) (hcm : cm < 64) (E1 : zk t n p = 2) (E2 : ¬ tz_find cn (zw t n p) 0 < 0) (E3 : ¬ cm.testBit (tz_find cn (zw t n p) 0).toNat = true) (hQ : ∀ (x : Int32) h', cw_T G h' → cw_Fr cw_Ds cw_sh mk_gt h0 h' → x.toInt = 1 → zKR h' b u (D) → zKB b u h0 h' → Q (some (cv_i x), h')) : cw_X X 182 Q 0 (cv_ent 0 [cv_r 111, cv_i g]) [] h0 := by
  have Fh0 : cw_Fr cw_Ds cw_sh mk_gt h0 h0 := cw_Fr_refl
  have zxl := zx_le (t := t) hpn
  obtain ⟨z1, z2, z3, z4, z5⟩ := id hz
  replace z5 := zhd_i z5
  have hA : ∀ h, cw_Fr cw_Ds cw_sh mk_gt h0 h → ∀ i, ri_at h 112 i = ri_at h0 112 i := fun h F i => ri_frr F (k := 112) (d := 51) rfl rfl (by decide +kernel)
  have hB : ∀ h, cw_Fr cw_Ds cw_sh mk_gt h0 h → ∀ i, ri_at h 113 i = ri_at h0 113 i := fun h F i => ri_frr F (k := 113) (d := 52) rfl rfl (by decide +kernel)
  refine ex_al oq_X12_causeRead_0 rfl ?_
  obtain ⟨x101, ax101, rx101, lx101, ux101⟩ := fi_kind hT
  refine ex_gf oq_X12_causeRead_1 hT (k := 111) (d := 12) rfl rfl ax101 ?_
  have rx101 := (rx101.symm.trans z4 : x101.toInt = zk t n p)
  refine ex_ic oq_X12_causeRead_4 (m := 2) (by decide) (fun x102 hx102 => ?_)
  refine ex_if oq_X12_causeRead_5 (t := 14) rfl rfl (fun (c103 : x101.toInt = x102.toInt) => ?_) (fun (c103 : ¬ (x101.toInt = x102.toInt)) => ?_)
  · refine ex_al oq_X12_causeRead_14 rfl ?_
    refine ex_gf oq_X12_causeRead_15 hT (k := 111) (d := 12) rfl rfl (fr_causeName hT) ?_
    refine ex_bi oq_X12_causeRead_18 (m := 6) (by decide) (fun x104 hx104 => ?_)
    refine ex_al oq_X12_causeRead_20 rfl ?_
    obtain ⟨x105, ax105, rx105, lx105, ux105⟩ := fi_causesRead hT
    refine ex_gf oq_X12_causeRead_21 hT (k := 111) (d := 12) rfl rfl ax105 ?_
    have rx105 := (rx105.symm.trans hcc : x105.toInt = (cn.length : Int))
    refine ex_al oq_X12_causeRead_24 rfl ?_
    obtain ⟨x106, ax106, rx106, lx106, ux106⟩ := fi_which hT
    refine ex_gf oq_X12_causeRead_25 hT (k := 111) (d := 12) rfl rfl ax106 ?_
    have wx106 : x106.toInt = zw t n p := rx106.symm.trans (hz.2.2.2.2 (by omega) (by omega))
    have hlh0 : ∀ k, k < cn.length → ri_at h0 123 (6 + k) = cn.getD k 0 := fun k hk => by rw [show ri_at h0 123 (6 + k) = ri_at h0 123 (6 + k) from rfl]; exact hcl k hk
    refine ex_cs oq_X12_causeRead_28 (by decide) (as := [cv_r 123, cv_i x104, cv_i x105, cv_i x106]) (stk := []) rfl rfl rfl ⟨rfl, rfl⟩ (R := fun o => ∃ x : Int32, o = (some (cv_i x), h0) ∧ x.toInt = tz_find cn x106.toInt 0) (rt_findC (f := 6) (l := cn) hT (by omega) (by omega) (by omega) hlh0 (fun x q => ⟨x, rfl, q⟩)) (fun o ho => ?_)
    obtain ⟨x107, rfl, qx107⟩ := ho
    show cw_X _ _ _ _ _ [cv_i x107] h0
    rw [wx106] at qx107
    have qb := zfd_b (x := zw t n p) cn 0
    refine ex_isA oq_X12_causeRead_31 (fun L108 gL108_2 kL108 => ?_)
    have gL108_0 : cv_get L108 0 = some (cv_r 111) := kL108 0 _ (by decide) (fun q => absurd q (by decide)) rfl
    have gL108_1 : cv_get L108 1 = some (cv_i g) := kL108 1 _ (by decide) (fun _ => rfl) rfl
    refine ex_il oq_X12_causeRead_32 gL108_2 ?_
    refine ex_if0 oq_X12_causeRead_33 (t := 42) rfl rfl (fun (c109 : 0 ≤ x107.toInt) => ?_) (fun (c109 : ¬ (0 ≤ x107.toInt)) => ?_)
    · refine ex_al oq_X12_causeRead_42 gL108_0 ?_
      refine ex_gf oq_X12_causeRead_43 hT (k := 111) (d := 12) rfl rfl (fr_gateHas hT) ?_
      refine ex_il oq_X12_causeRead_46 gL108_1 ?_
      refine ex_bi oq_X12_causeRead_47 (m := 14) (by decide) (fun x110 hx110 => ?_)
      refine ex_add oq_X12_causeRead_49 (by omega) (fun x111 hx111 => ?_)
      refine ex_iap oq_X12_causeRead_50 hT (k := 119) (d := 58) (j := b + 14) rfl rfl (by omega) (by omega) (fun x112 hx112 => ?_)
      have hx112 := (hx112.symm.trans hg14 : x112.toInt = (cm : Int))
      refine ex_il oq_X12_causeRead_51 gL108_2 ?_
      refine ex_cs oq_X12_causeRead_52 (by decide) (as := [cv_i x112, cv_i x107]) (stk := []) rfl rfl rfl ⟨rfl, rfl⟩ (R := fun o => ∃ x : Int32, o = (some (cv_i x), h0) ∧ (x.toInt = 1 ∧ cm.testBit (tz_find cn (zw t n p) 0).toNat = true ∨ x.toInt = 0 ∧ ¬ cm.testBit (tz_find cn (zw t n p) 0).toNat = true)) (rt_isOf (m := cm) (j := (tz_find cn (zw t n p) 0).toNat) (by omega) (by omega) (by omega) (by omega) (fun x q => ⟨x, rfl, q⟩)) (fun o ho => ?_)
      obtain ⟨x113, rfl, dx113⟩ := ho
      show cw_X _ _ _ _ _ [cv_i x113] h0
      refine ex_if0 oq_X12_causeRead_55 (t := 64) rfl rfl (fun (c114 : x113.toInt = 0) => ?_) (fun (c114 : ¬ (x113.toInt = 0)) => ?_)
      · replace dx113 := bit_n dx113 c114
        refine ex_al oq_X12_causeRead_64 gL108_0 ?_
        refine ex_gf oq_X12_causeRead_65 hT (k := 111) (d := 12) rfl rfl (fr_gateHas hT) ?_
        refine ex_il oq_X12_causeRead_68 gL108_1 ?_
        refine ex_bi oq_X12_causeRead_69 (m := 14) (by decide) (fun x115 hx115 => ?_)
        refine ex_add oq_X12_causeRead_71 (by omega) (fun x116 hx116 => ?_)
        refine ex_dup2 oq_X12_causeRead_72 rfl rfl ?_
        refine ex_iap oq_X12_causeRead_73 hT (k := 119) (d := 58) (j := b + 14) rfl rfl (by omega) (by omega) (fun x117 hx117 => ?_)
        have hx117 := (hx117.symm.trans hg14 : x117.toInt = (cm : Int))
        refine ex_ic oq_X12_causeRead_74 (m := 1) (by decide) (fun x118 hx118 => ?_)
        refine ex_il oq_X12_causeRead_75 gL108_2 ?_
        refine ex_any (f := fun x y => some x) oq_X12_causeRead_76 rfl (fun x119 => ?_)
        refine ex_any (f := fun x y => some x) oq_X12_causeRead_77 rfl (fun x120 => ?_)
        refine ex_iw oq_X12_causeRead_78 hT (k := 119) (d := 58) (j := b + 14) rfl rfl (by omega) (by omega) (fun r hr => gh_get hr _ (cw_i32 _)) (fun h121 Th121 wh121 => ?_)
        have Fh121 : cw_Fr cw_Ds cw_sh mk_gt h0 h121 := cw_Fr_tr Fh0 (cw_Fr_wrr wh121 (k := 119) (d := 58) rfl rfl (by decide +kernel))
        have eh121_111_4 : ri_at h121 111 4 = ri_at h0 111 4 := ri_ne wh121 (.inl (by decide))
        have eh121_111_5 : ri_at h121 111 5 = ri_at h0 111 5 := ri_ne wh121 (.inl (by decide))
        have eh121_111_6 : ri_at h121 111 6 = (n : Int) := (ri_ne wh121 (.inl (by decide))).trans z1
        have eh121_111_7 : ri_at h121 111 7 = ((zx t n p : Nat) : Int) := (ri_ne wh121 (.inl (by decide))).trans z3
        have eh121_111_8 : ri_at h121 111 8 = zk t n p := (ri_ne wh121 (.inl (by decide))).trans z4
        have eh121_111_10 : ri_at h121 111 10 = ((za t n p : Nat) : Int) := (ri_ne wh121 (.inl (by decide))).trans z2
        have eh121_111_11 : ri_at h121 111 11 = ri_at h0 111 11 := ri_ne wh121 (.inl (by decide))
        have eh121_111_18 : ri_at h121 111 18 = (cn.length : Int) := (ri_ne wh121 (.inl (by decide))).trans hcc
        have eh121_r14 : ri_at h121 119 (b + 14) = x120.toInt := ri_self wh121
        have Zh121 := zR_wr wh121 hz (.inl (by decide))
        refine ex_al oq_X12_causeRead_79 gL108_0 ?_
        refine ex_cv oq_X12_causeRead_80 (by decide) Th121 (k := 111) (d := 12) (as := []) (stk := []) rfl rfl rfl rfl rfl rfl ⟨rfl, rfl⟩ (R := fun o => ∃ hb : cv_H, o = (none, hb) ∧ cw_T G hb ∧ cw_Fr cw_Ds cw_sh kk_X12_token.2.2.2.2.2.1 h121 hb ∧ zR t n (zx t n p) hb) (rt_tok (t := t) (n := n) (p := (zx t n p)) (fun i hi => by rw [ht i hi, ← hA _ Fh121]) hn9 (fun i hi => by rw [hB _ Fh121]; exact hwr i hi) Th121 (zx_le (by omega)) (by omega) (by omega) (fun hb b1 b2 b3 => ⟨hb, rfl, b1, b2, b3⟩)) (fun o ho => ?_)
        obtain ⟨h122, rfl, Th122, Ch122, Zh122⟩ := ho
        show cw_X _ _ _ _ _ [] h122
        have Fh122 : cw_Fr cw_Ds cw_sh mk_gt h0 h122 := cw_Fr_tr Fh121 (cw_Fr_mono (by decide +kernel) Ch122)
        have eh122_111_4 : ri_at h122 111 4 = ri_at h0 111 4 := (ri_frf Ch122 (d := 12) rfl rfl (by decide +kernel)).trans eh121_111_4
        clear eh121_111_4
        have eh122_111_5 : ri_at h122 111 5 = ri_at h0 111 5 := (ri_frf Ch122 (d := 12) rfl rfl (by decide +kernel)).trans eh121_111_5
        clear eh121_111_5
        have eh122_111_11 : ri_at h122 111 11 = ri_at h0 111 11 := (ri_frf Ch122 (d := 12) rfl rfl (by decide +kernel)).trans eh121_111_11
        clear eh121_111_11
        have eh122_111_18 : ri_at h122 111 18 = (cn.length : Int) := (ri_frf Ch122 (d := 12) rfl rfl (by decide +kernel)).trans eh121_111_18
        clear eh121_111_18
        have eh122_r14 : ri_at h122 119 (b + 14) = x120.toInt := (ri_frq Ch122 (k := 119) (d := 58) rfl rfl (by decide) (by decide +kernel)).trans eh121_r14
        clear eh121_r14
        obtain ⟨yah122, ybh122, ych122, ydh122, -⟩ := id Zh122
        have zlh122 := zx_le (t := t) (n := n) (p := (zx t n p)) (by omega)
        clear eh121_111_6 eh121_111_10 eh121_111_7 eh121_111_8
        refine ex_ic oq_X12_causeRead_83 (m := 1) (by decide) (fun x123 hx123 => ?_)
        exact ex_retb oq_X12_causeRead_84 rfl (by omega) (by omega) (hQ x123 h122 Th122 Fh122 (by omega) ⟨fun j hj => match j, hj with | 0, _ => (((ri_frq Ch122 (k := 119) (d := 58) rfl rfl (by decide) (by decide +kernel)).trans (ri_ne wh121 (.inr (by omega))))).trans ((hD.1 0 (by decide)).trans (by rfl)) | 1, _ => (((ri_frq Ch122 (k := 119) (d := 58) rfl rfl (by decide) (by decide +kernel)).trans (ri_ne wh121 (.inr (by omega))))).trans ((hD.1 1 (by decide)).trans (by rfl)) | 2, _ => (((ri_frq Ch122 (k := 119) (d := 58) rfl rfl (by decide) (by decide +kernel)).trans (ri_ne wh121 (.inr (by omega))))).trans ((hD.1 2 (by decide)).trans (by rfl)) | 3, _ => (((ri_frq Ch122 (k := 119) (d := 58) rfl rfl (by decide) (by decide +kernel)).trans (ri_ne wh121 (.inr (by omega))))).trans ((hD.1 3 (by decide)).trans (by rfl)) | 4, _ => (((ri_frq Ch122 (k := 119) (d := 58) rfl rfl (by decide) (by decide +kernel)).trans (ri_ne wh121 (.inr (by omega))))).trans ((hD.1 4 (by decide)).trans (by rfl)) | 5, _ => (((ri_frq Ch122 (k := 119) (d := 58) rfl rfl (by decide) (by decide +kernel)).trans (ri_ne wh121 (.inr (by omega))))).trans ((hD.1 5 (by decide)).trans (by rfl)) | 6, _ => (((ri_frq Ch122 (k := 119) (d := 58) rfl rfl (by decide) (by decide +kernel)).trans (ri_ne wh121 (.inr (by omega))))).trans ((hD.1 6 (by decide)).trans (by rfl)) | 7, _ => (((ri_frq Ch122 (k := 119) (d := 58) rfl rfl (by decide) (by decide +kernel)).trans (ri_ne wh121 (.inr (by omega))))).trans ((hD.1 7 (by decide)).trans (by rfl)) | 8, _ => (((ri_frq Ch122 (k := 119) (d := 58) rfl rfl (by decide) (by decide +kernel)).trans (ri_ne wh121 (.inr (by omega))))).trans ((hD.1 8 (by decide)).trans (by rfl)) | 9, _ => (((ri_frq Ch122 (k := 119) (d := 58) rfl rfl (by decide) (by decide +kernel)).trans (ri_ne wh121 (.inr (by omega))))).trans ((hD.1 9 (by decide)).trans (by rfl)) | 10, _ => (((ri_frq Ch122 (k := 119) (d := 58) rfl rfl (by decide) (by decide +kernel)).trans (ri_ne wh121 (.inr (by omega))))).trans ((hD.1 10 (by decide)).trans (by rfl)) | 11, _ => (((ri_frq Ch122 (k := 119) (d := 58) rfl rfl (by decide) (by decide +kernel)).trans (ri_ne wh121 (.inr (by omega))))).trans ((hD.1 11 (by decide)).trans (by rfl)) | 12, _ => (((ri_frq Ch122 (k := 119) (d := 58) rfl rfl (by decide) (by decide +kernel)).trans (ri_ne wh121 (.inr (by omega))))).trans ((hD.1 12 (by decide)).trans (by rfl)) | 13, _ => (((ri_frq Ch122 (k := 119) (d := 58) rfl rfl (by decide) (by decide +kernel)).trans (ri_ne wh121 (.inr (by omega))))).trans ((hD.1 13 (by decide)).trans (by rfl)) | j + 14, hj => absurd hj (by omega), fun j hj => (((ri_frr Ch122 (k := 120) (d := 59) rfl rfl (by decide +kernel)).trans (ri_ne wh121 (.inl (by decide))))).trans ((hD.2 j hj).trans (by rfl))⟩ ⟨fun i hi => ((ri_frq Ch122 (k := 119) (d := 58) rfl rfl (by decide) (by decide +kernel)).trans (ri_ne wh121 (.inr (by omega)))), fun i hi => ((ri_frr Ch122 (k := 120) (d := 59) rfl rfl (by decide +kernel)).trans (ri_ne wh121 (.inl (by decide))))⟩)
      · replace c114 : ¬ x113.toInt = 0 := by omega
        replace dx113 := bit_y dx113 c114
        exact absurd dx113 E3
    · exfalso; omega
  · exfalso; omega
set_option maxHeartbeats 8000000 in
theorem rt_hasD6 {h0 : cv_H} {n p : Nat} (ht : ∀ i, i < n → t i = ri_at h0 112 i) (hn9 : n ≤ 900) (hT : cw_T G h0) (hwr : ∀ i, i < 177 → ri_at h0 113 i = pp_words.getD i 0) (hpn : p ≤ n) (hz : zR t n p h0) {b u : Nat} {g : Int32} (hg : g.toInt = b) (hb : b + 16 ≤ 128) (hu : u ≤ 3) (hgr : ri_at h0 111 16 = u) {hh : Int} (hg1 : ri_at h0 119 (b + 1) = hh) (hh2 : 24 ≤ hh ∧ hh ≤ 72) {D : Nat → Int} (hD : zKR h0 b u D) {w : Int32} (hw : w.toInt = 6) {cn : List Int} (hcc : ri_at h0 111 18 = cn.length) (hc6 : cn.length ≤ 6) (hcl : ∀ k, k < cn.length → ri_at h0 123 (6 + k) = cn.getD k 0) {cm : Nat} (hg14 : ri_at h0 119 (b + 14) = cm) (hcm : cm < 64) (E1 : zk t n p = 2) (E2 : ¬ tz_find cn (zw t n p) 0 < 0) (E3 : ¬ cm.testBit (tz_find cn (zw t n p) 0).toNat = true) (hQ : ∀ (x : Int32) h', cw_T G h' → cw_Fr cw_Ds cw_sh mk_gt h0 h' → x.toInt = 1 → zKR h' b u (D) → zKB b u h0 h' → Q (some (cv_i x), h')) : cw_X X 180 Q 0 (cv_ent 0 [cv_r 111, cv_i g, cv_i w]) [] h0 := by
  have Fh0 : cw_Fr cw_Ds cw_sh mk_gt h0 h0 := cw_Fr_refl
  have zxl := zx_le (t := t) hpn
  obtain ⟨z1, z2, z3, z4, z5⟩ := id hz
  replace z5 := zhd_i z5
  have hA : ∀ h, cw_Fr cw_Ds cw_sh mk_gt h0 h → ∀ i, ri_at h 112 i = ri_at h0 112 i := fun h F i => ri_frr F (k := 112) (d := 51) rfl rfl (by decide +kernel)
  have hB : ∀ h, cw_Fr cw_Ds cw_sh mk_gt h0 h → ∀ i, ri_at h 113 i = ri_at h0 113 i := fun h F i => ri_frr F (k := 113) (d := 52) rfl rfl (by decide +kernel)
  refine ex_il oq_X12_hasRead_0 rfl ?_
  refine ex_tsw oq_X12_hasRead_1 rfl (fun c101 => ⟨rfl, ?_⟩) (fun i hi c101 => ?_)
  · exfalso; omega
  · match i, hi, c101 with
    | 0, _, c101 => exfalso; omega
    | 1, _, c101 => exfalso; omega
    | 2, _, c101 => exfalso; omega
    | 3, _, c101 => exfalso; omega
    | 4, _, c101 => exfalso; omega
    | 5, _, c101 => exfalso; omega
    | 6, _, c101 =>
      refine ⟨rfl, ?_⟩
      show cw_X _ _ _ 207 _ _ _
      refine ex_al oq_X12_hasRead_207 rfl ?_
      refine ex_il oq_X12_hasRead_208 rfl ?_
      refine ex_cv oq_X12_hasRead_209 (by decide) hT (k := 111) (d := 12) (as := [cv_i g]) (stk := []) rfl rfl rfl rfl rfl rfl ⟨rfl, rfl⟩ (R := fun o => ∃ (x : Int32) (hb : cv_H), o = (some (cv_i x), hb) ∧ cw_T G hb ∧ cw_Fr cw_Ds cw_sh mk_gt h0 hb ∧ x.toInt = 1 ∧ zKR hb b u D ∧ zKB b u h0 hb) (rt_causeD (t := t) (n := n) (p := p) (fun i hi => by rw [ht i hi, ← hA _ Fh0]) hn9 hT (fun i hi => by rw [hB _ Fh0]; exact hwr i hi) (by omega) hz hg hb hu hgr hg1 hh2 hD hcc hc6 hcl hg14 hcm E1 E2 E3 (fun x hb b1 b2 b3 b4 b5 => ⟨x, hb, rfl, b1, b2, b3, b4, b5⟩)) (fun o ho => ?_)
      obtain ⟨x102, h103, rfl, Th103, Ch103, d0, d1, d2⟩ := ho
      show cw_X _ _ _ _ _ [cv_i x102] h103
      have Fh103 : cw_Fr cw_Ds cw_sh mk_gt h0 h103 := cw_Fr_tr Fh0 (cw_Fr_mono (by decide +kernel) Ch103)
      exact ex_retb oq_X12_hasRead_212 rfl (by omega) (by omega) (hQ x102 h103 Th103 Fh103 d0 d1 d2)
    | i + 7, hi, _ => exact absurd hi (by show ¬ i + 7 < 7; omega)
theorem zhs_W {t : Nat → Int} {n p c q cm : Nat} {hh w : Int} {cn : List Int} {D : Nat → Int} (hw : 0 ≤ w ∧ w ≤ 7) (e : zhs t n hh cn w cm p = .inr (c, q)) :
    (w = 0 ∧ ∃ v1 q1 v2 q2 v3 q3 v4, zn t n 0 hh p = .inr (v1, q1) ∧ zn t n (v1 + 1) hh q1 = .inr (v2, q2) ∧ zg t n 30 q2 = .inr (v3, q3) ∧ zg t n 30 q3 = .inr (v4, q) ∧ zpW t n hh w p D = zgU (zgU (zgU (zgU D 3 v1) 4 v2) 5 v3) 6 v4) ∨
    (w = 1 ∧ ∃ v1 q1 vs, zn t n 12 60 p = .inr (v1, q1) ∧ zns t n 3 14 1 q1 = .inr (vs, q) ∧ zpW t n hh w p D = zgU (zgU D 7 v1) 8 (vs.getD 0 0)) ∨
    (w = 2 ∧ (zk t n p = 1 ∧ (zw t n p = 28 ∨ zw t n p = 29)) ∧ zpW t n hh w p D = zgU D 9 (if zw t n p = 28 then 1 else 2)) ∨
    (w = 3 ∧ ∃ vs, zns t n 0 9999 2 p = .inr (vs, q) ∧ zpW t n hh w p D = zgU (zgU D 10 (vs.getD 0 0)) 11 (vs.getD 1 0)) ∨
    (w = 4 ∧ ∃ vs, zns t n 0 9999 1 p = .inr (vs, q) ∧ zpW t n hh w p D = zgU D 13 (vs.getD 0 0)) ∨
    (w = 5 ∧ ∃ vs, zns t n 0 200 9 p = .inr (vs, q) ∧ zpW t n hh w p D = fun j => if 16 ≤ j then vs.getD (j - 16) 0 else D j) ∨
    (w = 6 ∧ zcr t n cn cm p = .inr (c, q) ∧ zpW t n hh w p D = D) ∨
    (w = 7 ∧ ∃ vs, zns t n 0 200 1 p = .inr (vs, q) ∧ zpW t n hh w p D = zgU D 12 (vs.getD 0 0)) := by
  unfold zhs at e
  unfold zpW
  by_cases h0 : w = 0
  · rw [if_pos h0] at e ⊢
    obtain ⟨v, q1, e1, e⟩ := zb2_e e
    unfold zhk at e1
    obtain ⟨v1, p1, f1, e1⟩ := zb2_e e1
    obtain ⟨v2, p2, f2, e1⟩ := zb2_e e1
    obtain ⟨v3, p3, f3, e1⟩ := zb2_e e1
    obtain ⟨v4, p4, f4, e1⟩ := zb2_e e1
    cases e1
    cases e
    exact .inl ⟨h0, v1, p1, v2, p2, v3, p3, v4, f1, f2, f3, f4, by rw [zo_r f1, zo_r f2, zo_r f3, zo_r f4]⟩
  rw [if_neg h0] at e ⊢
  by_cases h1 : w = 1
  · rw [if_pos h1] at e ⊢
    obtain ⟨v1, p1, f1, e⟩ := zb2_e e
    obtain ⟨vs, p2, f2, e⟩ := zb2_e e
    cases e
    exact .inr (.inl ⟨h1, v1, p1, vs, f1, f2, by rw [zo_r f1, zo_r f2]⟩)
  rw [if_neg h1] at e ⊢
  by_cases h2 : w = 2
  · rw [if_pos h2] at e ⊢
    by_cases g : zk t n p = 1 ∧ (zw t n p = 28 ∨ zw t n p = 29)
    · exact .inr (.inr (.inl ⟨h2, g, rfl⟩))
    · rw [if_neg g] at e; cases e
  rw [if_neg h2] at e ⊢
  by_cases h3 : w = 3
  · rw [if_pos h3] at e ⊢
    obtain ⟨vs, p2, f2, e⟩ := zb2_e e
    cases e
    exact .inr (.inr (.inr (.inl ⟨h3, vs, f2, by rw [zo_r f2]⟩)))
  rw [if_neg h3] at e ⊢
  by_cases h4 : w = 4
  · rw [if_pos h4] at e ⊢
    obtain ⟨vs, p2, f2, e⟩ := zb2_e e
    cases e
    exact .inr (.inr (.inr (.inr (.inl ⟨h4, vs, f2, by rw [zo_r f2]⟩))))
  rw [if_neg h4] at e ⊢
  by_cases h5 : w = 5
  · rw [if_pos h5] at e ⊢
    obtain ⟨vs, p2, f2, e⟩ := zb2_e e
    cases e
    exact .inr (.inr (.inr (.inr (.inr (.inl ⟨h5, vs, f2, by rw [zo_r f2]⟩)))))
  rw [if_neg h5] at e ⊢
  by_cases h6 : w = 6
  · rw [if_pos h6] at e ⊢
    exact .inr (.inr (.inr (.inr (.inr (.inr (.inl ⟨h6, e, rfl⟩))))))
  rw [if_neg h6] at e ⊢
  obtain ⟨vs, p2, f2, e⟩ := zb2_e e
  cases e
  exact .inr (.inr (.inr (.inr (.inr (.inr (.inr ⟨by omega, vs, f2, by rw [zo_r f2]⟩))))))
theorem zcr_i {t : Nat → Int} {n p c q cm : Nat} {cn : List Int} (e : zcr t n cn cm p = .inr (c, q)) : zk t n p = 2 ∧ ¬ tz_find cn (zw t n p) 0 < 0 ∧ ¬ cm.testBit (tz_find cn (zw t n p) 0).toNat = true := by
  unfold zcr at e
  by_cases h : zk t n p = 2
  · rw [if_pos h] at e
    by_cases g : tz_find cn (zw t n p) 0 < 0
    · rw [if_pos g] at e; cases e
    · rw [if_neg g] at e
      by_cases k : cm.testBit (tz_find cn (zw t n p) 0).toNat = true
      · rw [if_pos k] at e; cases e
      · exact ⟨h, g, k⟩
  · rw [if_neg h] at e; cases e
theorem rt_hasD {h0 : cv_H} {n p : Nat} (ht : ∀ i, i < n → t i = ri_at h0 112 i) (hn9 : n ≤ 900) (hT : cw_T G h0) (hwr : ∀ i, i < 177 → ri_at h0 113 i = pp_words.getD i 0) (hpn : p ≤ n) (hz : zR t n p h0) {b u : Nat} {g : Int32} (hg : g.toInt = b) (hb : b + 16 ≤ 128) (hu : u ≤ 3) (hgr : ri_at h0 111 16 = u) {hh : Int} (hg1 : ri_at h0 119 (b + 1) = hh) (hh2 : 24 ≤ hh ∧ hh ≤ 72) {D : Nat → Int} (hD : zKR h0 b u D) {cn : List Int} (hcc : ri_at h0 111 18 = cn.length) (hc6 : cn.length ≤ 6) (hcl : ∀ k, k < cn.length → ri_at h0 123 (6 + k) = cn.getD k 0) {cm : Nat} (hg14 : ri_at h0 119 (b + 14) = cm) (hcm : cm < 64) {w : Int32} (hw : 0 ≤ w.toInt ∧ w.toInt ≤ 7) {c q : Nat} (ez : zhs t n hh cn w.toInt cm p = .inr (c, q)) (hQ : ∀ (x : Int32) h', cw_T G h' → cw_Fr cw_Ds cw_sh mk_gt h0 h' → x.toInt = 1 → zKR h' b u (zpW t n hh w.toInt p D) → zKB b u h0 h' → Q (some (cv_i x), h')) : cw_X X 180 Q 0 (cv_ent 0 [cv_r 111, cv_i g, cv_i w]) [] h0 := by
  rcases zhs_W (D := D) hw ez with ⟨a, v1, q1, v2, q2, v3, q3, v4, e1, e2, e3, e4, e⟩ | ⟨a, v1, q1, vs, e1, e2, e⟩ | ⟨a, e1, e⟩ | ⟨a, vs, e1, e⟩ | ⟨a, vs, e1, e⟩ | ⟨a, vs, e1, e⟩ | ⟨a, e1, e⟩ | ⟨a, vs, e1, e⟩
  · rw [e] at hQ; exact rt_hasD0 ht hn9 hT hwr hpn hz hg hb hu hgr hg1 hh2 hD a e1 e2 e3 e4 hQ
  · rw [e] at hQ; exact rt_hasD1 ht hn9 hT hwr hpn hz hg hb hu hgr hg1 hh2 hD a e1 e2 hQ
  · rw [e] at hQ; exact rt_hasD2 ht hn9 hT hwr hpn hz hg hb hu hgr hg1 hh2 hD a e1 hQ
  · rw [e] at hQ; exact rt_hasD3 ht hn9 hT hwr hpn hz hg hb hu hgr hg1 hh2 hD a e1 hQ
  · rw [e] at hQ; exact rt_hasD4 ht hn9 hT hwr hpn hz hg hb hu hgr hg1 hh2 hD a e1 hQ
  · rw [e] at hQ; exact rt_hasD5 ht hn9 hT hwr hpn hz hg hb hu hgr hg1 hh2 hD a e1 hQ
  · rw [e] at hQ; obtain ⟨f1, f2, f3⟩ := zcr_i e1; exact rt_hasD6 ht hn9 hT hwr hpn hz hg hb hu hgr hg1 hh2 hD a hcc hc6 hcl hg14 hcm f1 f2 f3 hQ
  · rw [e] at hQ; exact rt_hasD7 ht hn9 hT hwr hpn hz hg hb hu hgr hg1 hh2 hD a e1 hQ
end TZ
