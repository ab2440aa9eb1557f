/-! ===== a line on a gate, what it tells: the reference ===== -/
theorem zgp_i {t : Nat → Int} {n u m cm p q0 : Nat} {hh v0 : Int} {cn : List Int} (e : zgp t n hh cn (u + 1) m cm p = .inr (v0, q0)) (h : ¬ zhw (zk t n p) (zw t n p) < 0) : ∃ c q, ¬ (zhw (zk t n p) (zw t n p) ≠ 6 ∧ m.testBit (zhw (zk t n p) (zw t n p)).toNat = true) ∧ zhs t n hh cn (zhw (zk t n p) (zw t n p)) cm (zx t n p) = .inr (c, q) ∧ zgp t n hh cn u (m ||| 2 ^ (zhw (zk t n p) (zw t n p)).toNat) c q = .inr (v0, q0) ∧ ∀ D, zgF t n hh cn (u + 1) m cm p D = zgF t n hh cn u (m ||| 2 ^ (zhw (zk t n p) (zw t n p)).toNat) c q (zpW t n hh (zhw (zk t n p) (zw t n p)) (zx t n p) D) := by
  rw [zgp_s, if_neg h] at e
  by_cases g : zhw (zk t n p) (zw t n p) ≠ 6 ∧ m.testBit (zhw (zk t n p) (zw t n p)).toNat = true
  · rw [if_pos g] at e; cases e
  · rw [if_neg g] at e
    obtain ⟨c, q, e1, e2⟩ := zb2_e e
    refine ⟨c, q, g, e1, e2, fun D => ?_⟩
    rw [zgF_s, if_neg h, zo_r (show zpt t n hh cn m cm p = .inr (c, q) from by unfold zpt; rw [if_neg g]; exact e1)]
theorem zgp_n {t : Nat → Int} {n u m cm p q0 : Nat} {hh v0 : Int} {cn : List Int} (e : zgp t n hh cn (u + 1) m cm p = .inr (v0, q0)) (h : zhw (zk t n p) (zw t n p) < 0) (D : Nat → Int) : zgF t n hh cn (u + 1) m cm p D = (D, cm) := by
  rw [zgF_s, if_pos h]
section TZ
variable {G : Int} {X : cv_X} {Q : cv_O → Prop} {t : Nat → Int}
theorem rt_hasJ {h0 : cv_H} {n p : Nat} (ht : ∀ i, i < n → t i = ri_at h0 112 i) (hn9 : n ≤ 900) (hT : cw_T G h0) (hwr : ∀ i, i < 177 → ri_at h0 113 i = pp_words.getD i 0) (hpn : p ≤ n) (hz : zR t n p h0) {b u : Nat} {g : Int32} (hg : g.toInt = b) (hb : b + 16 ≤ 128) (hu : u ≤ 3) (hgr : ri_at h0 111 16 = u) {hh : Int} (hg1 : ri_at h0 119 (b + 1) = hh) (hh2 : 24 ≤ hh ∧ hh ≤ 72) {D : Nat → Int} (hD : zKR h0 b u D) (hbu : b = 64 + 16 * u) {cn : List Int} (hcc : ri_at h0 111 18 = cn.length) (hc6 : cn.length ≤ 6) (hcl : ∀ k, k < cn.length → ri_at h0 123 (6 + k) = cn.getD k 0) {cm : Nat} (hg14 : ri_at h0 119 (b + 14) = cm) (hcm : cm < 64) {w : Int32} (hw : 0 ≤ w.toInt ∧ w.toInt ≤ 7) {c q : Nat} (ez : zhs t n hh cn w.toInt cm p = .inr (c, q)) (hQ : ∀ (x : Int32) h', cw_T G h' → cw_Fr cw_Ds cw_sh mk_gt h0 h' → x.toInt = 1 → q ≤ n → zR t n q h' → ri_at h' 119 (b + 1) = hh → c < 64 → ri_at h' 119 (b + 14) = c → zKR h' b u (zpW t n hh w.toInt p D) → zKB b u h0 h' → Q (some (cv_i x), h')) : cw_X X 180 Q 0 (cv_ent 0 [cv_r 111, cv_i g, cv_i w]) [] h0 := by
  have A : cw_X X 180 (fun o => ∃ (x : Int32) (hb : cv_H), o = (some (cv_i x), hb) ∧ cw_T G hb ∧ cw_Fr cw_Ds cw_sh mk_gt h0 hb ∧ zRe t n h0 hb x (zhs t n hh cn w.toInt cm p) (fun c' => ri_at hb 119 (b + 1) = hh ∧ c' < 64 ∧ ri_at hb 119 (b + 14) = c')) 0 (cv_ent 0 [cv_r 111, cv_i g, cv_i w]) [] h0 :=
    rt_hasRead ht hn9 hT hwr hpn hz hg hb hg1 hh2 hg14 hcc hc6 hcl hcm hu hbu hgr hw (fun x hb b1 b2 b3 => ⟨x, hb, rfl, b1, b2, b3⟩)
  have B : cw_X X 180 (fun o => ∃ (x : Int32) (hb : cv_H), o = (some (cv_i x), hb) ∧ zKR hb b u (zpW t n hh w.toInt p D) ∧ zKB b u h0 hb) 0 (cv_ent 0 [cv_r 111, cv_i g, cv_i w]) [] h0 :=
    rt_hasD ht hn9 hT hwr hpn hz hg hb hu hgr hg1 hh2 hD hcc hc6 hcl hg14 hcm hw ez (fun x hb b1 b2 b3 b4 b5 => ⟨x, hb, rfl, b4, b5⟩)
  refine cw_X_mono (cw_X_and A B) ?_
  rintro o ⟨⟨x, h1, rfl, a1, a2, a3⟩, x2, h2, e, b1, b2⟩
  cases e
  rw [ez] at a3
  obtain ⟨c1, c2, c3, c4⟩ := zRe_r a3
  exact hQ x h1 a1 a2 c1 c2 c3 c4.1 c4.2.1 c4.2.2 b1 b2
set_option maxHeartbeats 8000000 in
theorem gl_lpD {h0 : cv_H} {n : Nat} (ht : ∀ i, i < n → t i = ri_at h0 112 i) (hn9 : n ≤ 900) (hwr : ∀ i, i < 177 → ri_at h0 113 i = pp_words.getD i 0) {b u : Nat} {g : Int32} (hg : g.toInt = b) (hb : b + 16 ≤ 128) (hu : u ≤ 3) (hbu : b = 64 + 16 * u) {hh : Int} (hh2 : 24 ≤ hh ∧ hh ≤ 72) {cn : List Int} (hc6 : cn.length ≤ 6) (hcl : ∀ k, k < cn.length → ri_at h0 123 (6 + k) = cn.getD k 0) {v0 : Int} {q0 : Nat} {R : (Nat → Int) × Nat} (hQ : ∀ (x : Int32) h', cw_T G h' → cw_Fr cw_Ds cw_sh mk_g2 h0 h' → zKR h' b u R.1 → ri_at h' 119 (b + 14) = (R.2 : Nat) → zKB b u h0 h' → Q (some (cv_i x), h')) :
    ∀ (f m cm p : Nat) (D : Nat → Int) (h : cv_H) (L : cv_L) (K wd : Int32), n - p < f → p ≤ n → zgp t n hh cn f m cm p = .inr (v0, q0) → zgF t n hh cn f m cm p D = R → cw_T G h → cw_Fr cw_Ds cw_sh mk_g2 h0 h → zKB b u h0 h → zR t n p h → ri_at h 111 16 = u → ri_at h 111 18 = cn.length → ri_at h 119 (b + 1) = hh → cm < 64 → ri_at h 119 (b + 14) = cm → zKR h b u D → K.toInt = m → m < 256 → wd.toInt = zhw (zk t n p) (zw t n p) → cv_get L 0 = some (cv_r 111) → cv_get L 1 = some (cv_i g) → cv_get L 2 = some (cv_i K) → cv_get L 3 = some (cv_i wd) → cw_X X 179 Q 297 L [] h := by
  intro f
  induction f with
  | zero => intro m cm p D h L K wd hf; omega
  | succ f ih =>
    intro m cm p D h L K wd hf hpn hst hR hT Fh hKB hz hgr hcc hg1 hcm hg14 hD hK hm hW g0 g1 g2 g3
    have zxl := zx_le (t := t) hpn
    have hwb := zhw_b (k := zk t n p) (w := zw t n p)
    obtain ⟨z1, z2, z3, z4, z5⟩ := id hz
    replace z5 := zhd_i z5
    have hA : ∀ h, cw_Fr cw_Ds cw_sh mk_g2 h0 h → ∀ i, ri_at h 112 i = ri_at h0 112 i := fun h F i => ri_frr F (k := 112) (d := 51) rfl rfl (by decide +kernel)
    have hB : ∀ h, cw_Fr cw_Ds cw_sh mk_g2 h0 h → ∀ i, ri_at h 113 i = ri_at h0 113 i := fun h F i => ri_frr F (k := 113) (d := 52) rfl rfl (by decide +kernel)
    refine ex_il oq_X12_gateLine_297 g3 ?_
    refine ex_if0 oq_X12_gateLine_298 (t := 350) rfl rfl (fun (c101 : wd.toInt < 0) => ?_) (fun (c101 : ¬ (wd.toInt < 0)) => ?_)
    · refine ex_al oq_X12_gateLine_350 g0 ?_
      refine ex_dup oq_X12_gateLine_351 rfl ?_
      obtain ⟨x102, ax102, rx102, lx102, ux102⟩ := fi_gatesRead hT
      refine ex_gf oq_X12_gateLine_352 hT (k := 111) (d := 12) rfl rfl ax102 ?_
      have rx102 := (rx102.symm.trans hgr : x102.toInt = (u : Int))
      refine ex_ic oq_X12_gateLine_355 (m := 1) (by decide) (fun x103 hx103 => ?_)
      refine ex_add oq_X12_gateLine_356 (by omega) (fun x104 hx104 => ?_)
      refine ex_pfi oq_X12_gateLine_357 hT (k := 111) (d := 12) rfl rfl rfl (by omega) (by omega) (fun h105 Th105 wh105 => ?_)
      have Fh105 : cw_Fr cw_Ds cw_sh mk_g2 h0 h105 := cw_Fr_tr Fh (cw_Fr_wrf wh105 (k := 111) (d := 12) rfl rfl (by decide +kernel))
      have eh105_111_4 : ri_at h105 111 4 = ri_at h 111 4 := ri_ne wh105 (by decide)
      have eh105_111_5 : ri_at h105 111 5 = ri_at h 111 5 := ri_ne wh105 (by decide)
      have eh105_111_6 : ri_at h105 111 6 = (n : Int) := (ri_ne wh105 (by decide)).trans z1
      have eh105_111_7 : ri_at h105 111 7 = ((zx t n p : Nat) : Int) := (ri_ne wh105 (by decide)).trans z3
      have eh105_111_8 : ri_at h105 111 8 = zk t n p := (ri_ne wh105 (by decide)).trans z4
      have eh105_111_10 : ri_at h105 111 10 = ((za t n p : Nat) : Int) := (ri_ne wh105 (by decide)).trans z2
      have eh105_111_11 : ri_at h105 111 11 = ri_at h 111 11 := ri_ne wh105 (by decide)
      have eh105_111_16 : ri_at h105 111 16 = x104.toInt := ri_self wh105
      have eh105_111_18 : ri_at h105 111 18 = (cn.length : Int) := (ri_ne wh105 (by decide)).trans hcc
      have eh105_r1 : ri_at h105 119 (b + 1) = hh := (ri_ne wh105 (.inl (by decide))).trans hg1
      have eh105_r14 : ri_at h105 119 (b + 14) = (cm : Int) := (ri_ne wh105 (.inl (by decide))).trans hg14
      have Zh105 := zR_wr wh105 hz (.inr (by decide))
      refine ex_ic oq_X12_gateLine_360 (m := 1) (by decide) (fun x106 hx106 => ?_)
      rw [zgp_n hst (by omega)] at hR
      subst hR
      exact ex_retb oq_X12_gateLine_361 rfl (by omega) (by omega) (hQ x106 h105 Th105 Fh105 ⟨fun j hj => ((ri_ne wh105 (.inl (by decide)))).trans (hD.1 j hj), fun j hj => ((ri_ne wh105 (.inl (by decide)))).trans (hD.2 j hj)⟩ eh105_r14 (zKB_tr hKB ⟨fun i hi => (ri_ne wh105 (.inl (by decide))), fun i hi => (ri_ne wh105 (.inl (by decide)))⟩))
    · obtain ⟨c, q, ng, ez, eg, ef⟩ := zgp_i hst (by omega)
      have ez0 := ez
      refine ex_il oq_X12_gateLine_301 g3 ?_
      refine ex_bi oq_X12_gateLine_302 (m := 6) (by decide) (fun x107 hx107 => ?_)
      refine ex_if oq_X12_gateLine_304 (t := 321) rfl rfl (fun (c108 : wd.toInt = x107.toInt) => ?_) (fun (c108 : ¬ (wd.toInt = x107.toInt)) => ?_)
      · refine ex_il oq_X12_gateLine_321 g2 ?_
        refine ex_ic oq_X12_gateLine_322 (m := 1) (by decide) (fun x109 hx109 => ?_)
        refine ex_il oq_X12_gateLine_323 g3 ?_
        refine ex_shlE oq_X12_gateLine_324 (fun x110 hx110 => ?_)
        refine ex_orE oq_X12_gateLine_325 (fun x111 hx111 => ?_)
        have hor : x111.toInt = ((m ||| 2 ^ (zhw (zk t n p) (zw t n p)).toNat : Nat) : Int) := by rw [hx111, hx110]; exact bt_or hK hm (by omega) (by omega) hx109
        refine ex_isA oq_X12_gateLine_326 (fun L112 gL112_2 kL112 => ?_)
        have gL112_0 : cv_get L112 0 = some (cv_r 111) := kL112 0 _ (by decide) (fun q => absurd q (by decide)) g0
        have gL112_1 : cv_get L112 1 = some (cv_i g) := kL112 1 _ (by decide) (fun _ => rfl) g1
        have gL112_3 : cv_get L112 3 = some (cv_i wd) := kL112 3 _ (by decide) (fun q => absurd q (by decide)) g3
        refine ex_al oq_X12_gateLine_327 gL112_0 ?_
        refine ex_cv oq_X12_gateLine_328 (by decide) hT (k := 111) (d := 12) (as := []) (stk := []) rfl rfl rfl rfl rfl rfl ⟨rfl, rfl⟩ (R := fun o => ∃ hb : cv_H, o = (none, hb) ∧ cw_T G hb ∧ cw_Fr cw_Ds cw_sh kk_X12_token.2.2.2.2.2.1 h hb ∧ zR t n (zx t n p) hb) (rt_tok (t := t) (n := n) (p := (zx t n p)) (fun i hi => by rw [ht i hi, ← hA _ Fh]) hn9 (fun i hi => by rw [hB _ Fh]; exact hwr i hi) hT (zx_le (by omega)) (by omega) (by omega) (fun hb b1 b2 b3 => ⟨hb, rfl, b1, b2, b3⟩)) (fun o ho => ?_)
        obtain ⟨h113, rfl, Th113, Ch113, Zh113⟩ := ho
        show cw_X _ _ _ _ _ [] h113
        have Fh113 : cw_Fr cw_Ds cw_sh mk_g2 h0 h113 := cw_Fr_tr Fh (cw_Fr_mono (by decide +kernel) Ch113)
        have eh113_111_4 : ri_at h113 111 4 = ri_at h 111 4 := ri_frf Ch113 (d := 12) rfl rfl (by decide +kernel)
        have eh113_111_5 : ri_at h113 111 5 = ri_at h 111 5 := ri_frf Ch113 (d := 12) rfl rfl (by decide +kernel)
        have eh113_111_11 : ri_at h113 111 11 = ri_at h 111 11 := ri_frf Ch113 (d := 12) rfl rfl (by decide +kernel)
        have eh113_111_16 : ri_at h113 111 16 = (u : Int) := (ri_frf Ch113 (d := 12) rfl rfl (by decide +kernel)).trans hgr
        have eh113_111_18 : ri_at h113 111 18 = (cn.length : Int) := (ri_frf Ch113 (d := 12) rfl rfl (by decide +kernel)).trans hcc
        have eh113_r1 : ri_at h113 119 (b + 1) = hh := (ri_frq Ch113 (k := 119) (d := 58) rfl rfl (by decide) (by decide +kernel)).trans hg1
        have eh113_r14 : ri_at h113 119 (b + 14) = (cm : Int) := (ri_frq Ch113 (k := 119) (d := 58) rfl rfl (by decide) (by decide +kernel)).trans hg14
        obtain ⟨yah113, ybh113, ych113, ydh113, -⟩ := id Zh113
        have zlh113 := zx_le (t := t) (n := n) (p := (zx t n p)) (by omega)
        refine ex_al oq_X12_gateLine_331 gL112_0 ?_
        refine ex_il oq_X12_gateLine_332 gL112_1 ?_
        refine ex_il oq_X12_gateLine_333 gL112_3 ?_
        have hclh113 : ∀ k, k < cn.length → ri_at h113 123 (6 + k) = cn.getD k 0 := fun k hk => by rw [show ri_at h113 123 (6 + k) = ri_at h0 123 (6 + k) from ri_frr Fh113 (k := 123) (d := 62) rfl rfl (by decide +kernel)]; exact hcl k hk
        have hDh113 : zKR h113 b u D := ⟨fun j hj => ((ri_frq Ch113 (k := 119) (d := 58) rfl rfl (by decide) (by decide +kernel))).trans (hD.1 j hj), fun j hj => ((ri_frr Ch113 (k := 120) (d := 59) rfl rfl (by decide +kernel))).trans (hD.2 j hj)⟩
        have kbh113 : zKB b u h0 h113 := (zKB_tr hKB ⟨fun i hi => (ri_frq Ch113 (k := 119) (d := 58) rfl rfl (by decide) (by decide +kernel)), fun i hi => (ri_frr Ch113 (k := 120) (d := 59) rfl rfl (by decide +kernel))⟩)
        rw [← hW] at ez
        refine ex_cv oq_X12_gateLine_334 (by decide) Th113 (k := 111) (d := 12) (as := [cv_i g, cv_i wd]) (stk := []) rfl rfl rfl rfl rfl rfl ⟨rfl, rfl⟩ (R := fun o => ∃ (x : Int32) (hb : cv_H), o = (some (cv_i x), hb) ∧ cw_T G hb ∧ cw_Fr cw_Ds cw_sh mk_gt h113 hb ∧ x.toInt = 1 ∧ q ≤ n ∧ zR t n q hb ∧ ri_at hb 119 (b + 1) = hh ∧ c < 64 ∧ ri_at hb 119 (b + 14) = c ∧ zKR hb b u (zpW t n hh wd.toInt (zx t n p) D) ∧ zKB b u h113 hb) (rt_hasJ (t := t) (n := n) (p := (zx t n p)) (fun i hi => by rw [ht i hi, ← hA _ Fh113]) hn9 Th113 (fun i hi => by rw [hB _ Fh113]; exact hwr i hi) (by omega) Zh113 hg hb hu (by omega) eh113_r1 hh2 hDh113 hbu (by omega) hc6 hclh113 eh113_r14 hcm (by omega) ez (fun x hb b1 b2 b3 b4 b5 b6 b7 b8 b9 b10 => ⟨x, hb, rfl, b1, b2, b3, b4, b5, b6, b7, b8, b9, b10⟩)) (fun o ho => ?_)
        obtain ⟨x114, h115, rfl, Th115, Ch115, x1, qn, Zh115, y1, y64, y14, yD, yB⟩ := ho
        show cw_X _ _ _ _ _ [cv_i x114] h115
        rw [hW] at yD
        have Fh115 : cw_Fr cw_Ds cw_sh mk_g2 h0 h115 := cw_Fr_tr Fh113 (cw_Fr_mono (by decide +kernel) Ch115)
        have eh115_111_16 : ri_at h115 111 16 = (u : Int) := (ri_frf Ch115 (d := 12) rfl rfl (by decide +kernel)).trans eh113_111_16
        clear eh113_111_16
        have eh115_111_18 : ri_at h115 111 18 = (cn.length : Int) := (ri_frf Ch115 (d := 12) rfl rfl (by decide +kernel)).trans eh113_111_18
        clear eh113_111_18
        obtain ⟨yah115, ybh115, ych115, ydh115, -⟩ := id Zh115
        have zlh115 := zx_le (t := t) (n := n) (p := q) (by omega)
        clear yah113 ybh113 ych113 ydh113
        refine ex_if0 oq_X12_gateLine_337 (t := 342) rfl rfl (fun (c116 : ¬ x114.toInt = 0) => ?_) (fun (c116 : ¬ (¬ x114.toInt = 0)) => ?_)
        · refine ex_al oq_X12_gateLine_342 gL112_0 ?_
          refine ex_cv oq_X12_gateLine_343 (by decide) Th115 (k := 111) (d := 12) (as := []) (stk := []) rfl rfl rfl rfl rfl rfl ⟨rfl, rfl⟩ (R := fun o => ∃ x : Int32, o = (some (cv_i x), h115) ∧ x.toInt = zhw (zk t n q) (zw t n q)) (rt_hasWord (t := t) (n := n) (p := q) Th115 Zh115 (fun x q => ⟨x, rfl, q⟩)) (fun o ho => ?_)
          obtain ⟨x117, rfl, wx117⟩ := ho
          show cw_X _ _ _ _ _ [cv_i x117] h115
          refine ex_isA oq_X12_gateLine_346 (fun L118 gL118_3 kL118 => ?_)
          have gL118_2 : cv_get L118 2 = some (cv_i x111) := kL118 2 _ (by decide) (fun _ => rfl) gL112_2
          have gL118_0 : cv_get L118 0 = some (cv_r 111) := kL118 0 _ (by decide) (fun q => absurd q (by decide)) gL112_0
          have gL118_1 : cv_get L118 1 = some (cv_i g) := kL118 1 _ (by decide) (fun q => absurd q (by decide)) gL112_1
          refine ex_go oq_X12_gateLine_347 (t := 297) rfl rfl ?_
          have hge := zhs_ge (by omega) ez0
          have hgt : p < zx t n p := zx_gt hpn (by omega)
          exact ih (m ||| 2 ^ (zhw (zk t n p) (zw t n p)).toNat) c q _ h115 L118 x111 x117 (by omega) (by omega) eg ((ef D).symm.trans hR) Th115 Fh115 (zKB_tr kbh113 yB) Zh115 (by omega) (by omega) y1 y64 y14 yD (by rw [hor]) (bt_256 hm (by omega)) wx117 gL118_0 gL118_1 gL118_2 gL118_3
        · exfalso; omega
      · refine ex_il oq_X12_gateLine_307 g2 ?_
        refine ex_il oq_X12_gateLine_308 g3 ?_
        refine ex_cs oq_X12_gateLine_309 (by decide) (as := [cv_i K, cv_i wd]) (stk := []) rfl rfl rfl ⟨rfl, rfl⟩ (R := fun o => ∃ x : Int32, o = (some (cv_i x), h) ∧ (x.toInt = 1 ∧ m.testBit (zhw (zk t n p) (zw t n p)).toNat = true ∨ x.toInt = 0 ∧ ¬ m.testBit (zhw (zk t n p) (zw t n p)).toNat = true)) (rt_isOf (m := m) (j := (zhw (zk t n p) (zw t n p)).toNat) (by omega) hm (by omega) (by omega) (fun x q => ⟨x, rfl, q⟩)) (fun o ho => ?_)
        obtain ⟨x119, rfl, dx119⟩ := ho
        show cw_X _ _ _ _ _ [cv_i x119] h
        refine ex_if0 oq_X12_gateLine_312 (t := 321) rfl rfl (fun (c120 : x119.toInt = 0) => ?_) (fun (c120 : ¬ (x119.toInt = 0)) => ?_)
        · replace dx119 := bit_n dx119 c120
          refine ex_il oq_X12_gateLine_321 g2 ?_
          refine ex_ic oq_X12_gateLine_322 (m := 1) (by decide) (fun x121 hx121 => ?_)
          refine ex_il oq_X12_gateLine_323 g3 ?_
          refine ex_shlE oq_X12_gateLine_324 (fun x122 hx122 => ?_)
          refine ex_orE oq_X12_gateLine_325 (fun x123 hx123 => ?_)
          have hor : x123.toInt = ((m ||| 2 ^ (zhw (zk t n p) (zw t n p)).toNat : Nat) : Int) := by rw [hx123, hx122]; exact bt_or hK hm (by omega) (by omega) hx121
          refine ex_isA oq_X12_gateLine_326 (fun L124 gL124_2 kL124 => ?_)
          have gL124_0 : cv_get L124 0 = some (cv_r 111) := kL124 0 _ (by decide) (fun q => absurd q (by decide)) g0
          have gL124_1 : cv_get L124 1 = some (cv_i g) := kL124 1 _ (by decide) (fun _ => rfl) g1
          have gL124_3 : cv_get L124 3 = some (cv_i wd) := kL124 3 _ (by decide) (fun q => absurd q (by decide)) g3
          refine ex_al oq_X12_gateLine_327 gL124_0 ?_
          refine ex_cv oq_X12_gateLine_328 (by decide) hT (k := 111) (d := 12) (as := []) (stk := []) rfl rfl rfl rfl rfl rfl ⟨rfl, rfl⟩ (R := fun o => ∃ hb : cv_H, o = (none, hb) ∧ cw_T G hb ∧ cw_Fr cw_Ds cw_sh kk_X12_token.2.2.2.2.2.1 h hb ∧ zR t n (zx t n p) hb) (rt_tok (t := t) (n := n) (p := (zx t n p)) (fun i hi => by rw [ht i hi, ← hA _ Fh]) hn9 (fun i hi => by rw [hB _ Fh]; exact hwr i hi) hT (zx_le (by omega)) (by omega) (by omega) (fun hb b1 b2 b3 => ⟨hb, rfl, b1, b2, b3⟩)) (fun o ho => ?_)
          obtain ⟨h125, rfl, Th125, Ch125, Zh125⟩ := ho
          show cw_X _ _ _ _ _ [] h125
          have Fh125 : cw_Fr cw_Ds cw_sh mk_g2 h0 h125 := cw_Fr_tr Fh (cw_Fr_mono (by decide +kernel) Ch125)
          have eh125_111_4 : ri_at h125 111 4 = ri_at h 111 4 := ri_frf Ch125 (d := 12) rfl rfl (by decide +kernel)
          have eh125_111_5 : ri_at h125 111 5 = ri_at h 111 5 := ri_frf Ch125 (d := 12) rfl rfl (by decide +kernel)
          have eh125_111_11 : ri_at h125 111 11 = ri_at h 111 11 := ri_frf Ch125 (d := 12) rfl rfl (by decide +kernel)
          have eh125_111_16 : ri_at h125 111 16 = (u : Int) := (ri_frf Ch125 (d := 12) rfl rfl (by decide +kernel)).trans hgr
          have eh125_111_18 : ri_at h125 111 18 = (cn.length : Int) := (ri_frf Ch125 (d := 12) rfl rfl (by decide +kernel)).trans hcc
          have eh125_r1 : ri_at h125 119 (b + 1) = hh := (ri_frq Ch125 (k := 119) (d := 58) rfl rfl (by decide) (by decide +kernel)).trans hg1
          have eh125_r14 : ri_at h125 119 (b + 14) = (cm : Int) := (ri_frq Ch125 (k := 119) (d := 58) rfl rfl (by decide) (by decide +kernel)).trans hg14
          obtain ⟨yah125, ybh125, ych125, ydh125, -⟩ := id Zh125
          have zlh125 := zx_le (t := t) (n := n) (p := (zx t n p)) (by omega)
          refine ex_al oq_X12_gateLine_331 gL124_0 ?_
          refine ex_il oq_X12_gateLine_332 gL124_1 ?_
          refine ex_il oq_X12_gateLine_333 gL124_3 ?_
          have hclh125 : ∀ k, k < cn.length → ri_at h125 123 (6 + k) = cn.getD k 0 := fun k hk => by rw [show ri_at h125 123 (6 + k) = ri_at h0 123 (6 + k) from ri_frr Fh125 (k := 123) (d := 62) rfl rfl (by decide +kernel)]; exact hcl k hk
          have hDh125 : zKR h125 b u D := ⟨fun j hj => ((ri_frq Ch125 (k := 119) (d := 58) rfl rfl (by decide) (by decide +kernel))).trans (hD.1 j hj), fun j hj => ((ri_frr Ch125 (k := 120) (d := 59) rfl rfl (by decide +kernel))).trans (hD.2 j hj)⟩
          have kbh125 : zKB b u h0 h125 := (zKB_tr hKB ⟨fun i hi => (ri_frq Ch125 (k := 119) (d := 58) rfl rfl (by decide) (by decide +kernel)), fun i hi => (ri_frr Ch125 (k := 120) (d := 59) rfl rfl (by decide +kernel))⟩)
          rw [← hW] at ez
          refine ex_cv oq_X12_gateLine_334 (by decide) Th125 (k := 111) (d := 12) (as := [cv_i g, cv_i wd]) (stk := []) rfl rfl rfl rfl rfl rfl ⟨rfl, rfl⟩ (R := fun o => ∃ (x : Int32) (hb : cv_H), o = (some (cv_i x), hb) ∧ cw_T G hb ∧ cw_Fr cw_Ds cw_sh mk_gt h125 hb ∧ x.toInt = 1 ∧ q ≤ n ∧ zR t n q hb ∧ ri_at hb 119 (b + 1) = hh ∧ c < 64 ∧ ri_at hb 119 (b + 14) = c ∧ zKR hb b u (zpW t n hh wd.toInt (zx t n p) D) ∧ zKB b u h125 hb) (rt_hasJ (t := t) (n := n) (p := (zx t n p)) (fun i hi => by rw [ht i hi, ← hA _ Fh125]) hn9 Th125 (fun i hi => by rw [hB _ Fh125]; exact hwr i hi) (by omega) Zh125 hg hb hu (by omega) eh125_r1 hh2 hDh125 hbu (by omega) hc6 hclh125 eh125_r14 hcm (by omega) ez (fun x hb b1 b2 b3 b4 b5 b6 b7 b8 b9 b10 => ⟨x, hb, rfl, b1, b2, b3, b4, b5, b6, b7, b8, b9, b10⟩)) (fun o ho => ?_)
          obtain ⟨x126, h127, rfl, Th127, Ch127, x1, qn, Zh127, y1, y64, y14, yD, yB⟩ := ho
          show cw_X _ _ _ _ _ [cv_i x126] h127
          rw [hW] at yD
          have Fh127 : cw_Fr cw_Ds cw_sh mk_g2 h0 h127 := cw_Fr_tr Fh125 (cw_Fr_mono (by decide +kernel) Ch127)
          have eh127_111_16 : ri_at h127 111 16 = (u : Int) := (ri_frf Ch127 (d := 12) rfl rfl (by decide +kernel)).trans eh125_111_16
          clear eh125_111_16
          have eh127_111_18 : ri_at h127 111 18 = (cn.length : Int) := (ri_frf Ch127 (d := 12) rfl rfl (by decide +kernel)).trans eh125_111_18
          clear eh125_111_18
          obtain ⟨yah127, ybh127, ych127, ydh127, -⟩ := id Zh127
          have zlh127 := zx_le (t := t) (n := n) (p := q) (by omega)
          clear yah125 ybh125 ych125 ydh125
          refine ex_if0 oq_X12_gateLine_337 (t := 342) rfl rfl (fun (c128 : ¬ x126.toInt = 0) => ?_) (fun (c128 : ¬ (¬ x126.toInt = 0)) => ?_)
          · refine ex_al oq_X12_gateLine_342 gL124_0 ?_
            refine ex_cv oq_X12_gateLine_343 (by decide) Th127 (k := 111) (d := 12) (as := []) (stk := []) rfl rfl rfl rfl rfl rfl ⟨rfl, rfl⟩ (R := fun o => ∃ x : Int32, o = (some (cv_i x), h127) ∧ x.toInt = zhw (zk t n q) (zw t n q)) (rt_hasWord (t := t) (n := n) (p := q) Th127 Zh127 (fun x q => ⟨x, rfl, q⟩)) (fun o ho => ?_)
            obtain ⟨x129, rfl, wx129⟩ := ho
            show cw_X _ _ _ _ _ [cv_i x129] h127
            refine ex_isA oq_X12_gateLine_346 (fun L130 gL130_3 kL130 => ?_)
            have gL130_2 : cv_get L130 2 = some (cv_i x123) := kL130 2 _ (by decide) (fun _ => rfl) gL124_2
            have gL130_0 : cv_get L130 0 = some (cv_r 111) := kL130 0 _ (by decide) (fun q => absurd q (by decide)) gL124_0
            have gL130_1 : cv_get L130 1 = some (cv_i g) := kL130 1 _ (by decide) (fun q => absurd q (by decide)) gL124_1
            refine ex_go oq_X12_gateLine_347 (t := 297) rfl rfl ?_
            have hge := zhs_ge (by omega) ez0
            have hgt : p < zx t n p := zx_gt hpn (by omega)
            exact ih (m ||| 2 ^ (zhw (zk t n p) (zw t n p)).toNat) c q _ h127 L130 x123 x129 (by omega) (by omega) eg ((ef D).symm.trans hR) Th127 Fh127 (zKB_tr kbh125 yB) Zh127 (by omega) (by omega) y1 y64 y14 yD (by rw [hor]) (bt_256 hm (by omega)) wx129 gL130_0 gL130_1 gL130_2 gL130_3
          · exfalso; omega
        · replace c120 : ¬ x119.toInt = 0 := by omega
          replace dx119 := bit_y dx119 c120
          exact absurd ⟨by omega, dx119⟩ ng
theorem gl_rsD {h0 : cv_H} {u : Nat} (hu : u ≤ 3) {g : Int32} (hQ : ∀ h' L, cw_T G h' → cw_Fr cw_Ds cw_sh mk_rs h0 h' → (∀ j, j < 9 → ri_at h' 120 (36 + 9 * u + j) = 0) → (∀ i, i < 36 + 9 * u → ri_at h' 120 i = ri_at h0 120 i) → cv_get L 0 = some (cv_r 111) → cv_get L 1 = some (cv_i g) → cw_X X 179 Q 290 L [] h') :
    ∀ (f k : Nat) (h : cv_H) (L : cv_L) (K : Int32), 9 - k = f → k ≤ 9 → K.toInt = k → cw_T G h → cw_Fr cw_Ds cw_sh mk_rs h0 h → ri_at h 111 16 = u → (∀ j, j < k → ri_at h 120 (36 + 9 * u + j) = 0) → (∀ i, i < 36 + 9 * u → ri_at h 120 i = ri_at h0 120 i) → cv_get L 0 = some (cv_r 111) → cv_get L 1 = some (cv_i g) → cv_get L 2 = some (cv_i K) → cw_X X 179 Q 260 L [] h := by
  intro f
  induction f with
  | zero =>
    intro k h L K hf hk hK hT Fh hgr h0z hlow g0 g1 g2
    refine ex_il oq_X12_gateLine_260 g2 ?_
    refine ex_bi oq_X12_gateLine_261 (m := 9) (by decide) (fun x101 hx101 => ?_)
    refine ex_if oq_X12_gateLine_263 (t := 290) rfl rfl (fun (c102 : x101.toInt ≤ K.toInt) => ?_) (fun (c102 : ¬ (x101.toInt ≤ K.toInt)) => ?_)
    · exact hQ h L hT Fh (fun j hj => h0z j (by omega)) hlow g0 g1
    · exfalso; omega
  | succ f ih =>
    intro k h L K hf hk hK hT Fh hgr h0z hlow g0 g1 g2
    refine ex_il oq_X12_gateLine_260 g2 ?_
    refine ex_bi oq_X12_gateLine_261 (m := 9) (by decide) (fun x101 hx101 => ?_)
    refine ex_if oq_X12_gateLine_263 (t := 290) rfl rfl (fun (c102 : x101.toInt ≤ K.toInt) => ?_) (fun (c102 : ¬ (x101.toInt ≤ K.toInt)) => ?_)
    · exfalso; omega
    · refine ex_al oq_X12_gateLine_266 g0 ?_
      refine ex_gf oq_X12_gateLine_267 hT (k := 111) (d := 12) rfl rfl (fr_rise hT) ?_
      refine ex_bi oq_X12_gateLine_270 (m := 36) (by decide) (fun x103 hx103 => ?_)
      refine ex_bi oq_X12_gateLine_272 (m := 9) (by decide) (fun x104 hx104 => ?_)
      refine ex_al oq_X12_gateLine_274 g0 ?_
      obtain ⟨x105, ax105, rx105, lx105, ux105⟩ := fi_gatesRead hT
      refine ex_gf oq_X12_gateLine_275 hT (k := 111) (d := 12) rfl rfl ax105 ?_
      have rx105 := (rx105.symm.trans hgr : x105.toInt = (u : Int))
      refine ex_mul oq_X12_gateLine_278 (m := 9 * x105.toInt) (by rw [hx104]) (by omega) (fun x106 hx106 => ?_)
      refine ex_add oq_X12_gateLine_279 (by omega) (fun x107 hx107 => ?_)
      refine ex_il oq_X12_gateLine_280 g2 ?_
      refine ex_add oq_X12_gateLine_281 (by omega) (fun x108 hx108 => ?_)
      refine ex_ic oq_X12_gateLine_282 (m := 0) (by decide) (fun x109 hx109 => ?_)
      refine ex_iw1 oq_X12_gateLine_283 hT (k := 120) (d := 59) (j := 36 + 9 * u + k) rfl rfl (by omega) (by omega) ⟨(cw_i32 _).1, (cw_i32 _).2⟩ (fun h110 Th110 wh110 => ?_)
      have Fh110 : cw_Fr cw_Ds cw_sh mk_rs h0 h110 := cw_Fr_tr Fh (cw_Fr_wrr wh110 (k := 120) (d := 59) rfl rfl (by decide +kernel))
      have eh110_111_16 : ri_at h110 111 16 = (u : Int) := (ri_ne wh110 (.inl (by decide))).trans hgr
      refine ex_incA oq_X12_gateLine_284 (v := K) (m := 1) g2 (by decide) (by omega) (fun L112 x111 hx111 gL112_2 kL112 => ?_)
      have gL112_0 : cv_get L112 0 = some (cv_r 111) := kL112 0 _ (by decide) (fun q => absurd q (by decide)) g0
      have gL112_1 : cv_get L112 1 = some (cv_i g) := kL112 1 _ (by decide) (fun _ => rfl) g1
      refine ex_go oq_X12_gateLine_287 (t := 260) rfl rfl ?_
      exact ih (k + 1) h110 L112 x111 (by omega) (by omega) (by omega) Th110 Fh110 (by omega) (fun j hj => by
        by_cases q : j = k
        · subst q; exact (ri_self wh110).trans (by omega)
        · exact (ri_ne wh110 (.inr (by omega))).trans (h0z j (by omega))) (fun i hi => (ri_ne wh110 (.inr (by omega))).trans (hlow i hi)) gL112_0 gL112_1 gL112_2
set_option maxHeartbeats 8000000 in
theorem rt_gateLineD {h0 : cv_H} {n p : Nat} (ht : ∀ i, i < n → t i = ri_at h0 112 i) (hn9 : n ≤ 900) (hT : cw_T G h0) (hwr : ∀ i, i < 177 → ri_at h0 113 i = pp_words.getD i 0) (hpn : p ≤ n) (hz : zR t n p h0) {l cn : List Int} (hc : ri_at h0 111 16 = l.length) (hlm : l.length < 4) (hl : ∀ k, k < l.length → ri_at h0 118 (4 + k) = l.getD k 0) (hcc : ri_at h0 111 18 = cn.length) (hc6 : cn.length ≤ 6) (hcl : ∀ k, k < cn.length → ri_at h0 123 (6 + k) = cn.getD k 0) {nm a hh w v0 : Int} {p1 p2 p3 p4 q0 : Nat} (E1 : zm t n l (zx t n p) = .inr (nm, p1)) (E2 : zn t n 24 144 p1 = .inr (a, p2)) (E3 : zn t n 24 72 p2 = .inr (hh, p3)) (E4 : zn t n 20 400 p3 = .inr (w, p4)) (E5 : zgp t n hh cn 901 0 0 p4 = .inr (v0, q0)) (hQ : ∀ (x : Int32) h', cw_T G h' → cw_Fr cw_Ds cw_sh mk_gz h0 h' → zKR h' (64 + 16 * l.length) l.length (zgF t n hh cn 901 0 0 p4 (zgB a hh w)).1 → ri_at h' 119 (64 + 16 * l.length + 14) = ((zgF t n hh cn 901 0 0 p4 (zgB a hh w)).2 : Nat) → zKB (64 + 16 * l.length) l.length h0 h' → Q (some (cv_i x), h')) : cw_X X 179 Q 0 (cv_ent 0 [cv_r 111]) [] h0 := by
  have Fh0 : cw_Fr cw_Ds cw_sh mk_gz h0 h0 := cw_Fr_refl
  have zxl := zx_le (t := t) hpn
  obtain ⟨z1, z2, z3, z4, z5⟩ := id hz
  replace z5 := zhd_i z5
  have hA : ∀ h, cw_Fr cw_Ds cw_sh mk_gz h0 h → ∀ i, ri_at h 112 i = ri_at h0 112 i := fun h F i => ri_frr F (k := 112) (d := 51) rfl rfl (by decide +kernel)
  have hB : ∀ h, cw_Fr cw_Ds cw_sh mk_gz h0 h → ∀ i, ri_at h 113 i = ri_at h0 113 i := fun h F i => ri_frr F (k := 113) (d := 52) rfl rfl (by decide +kernel)
  obtain ⟨b, hb⟩ : ∃ b, b = 64 + 16 * l.length := ⟨_, rfl⟩
  have n2 := zn_rg E2
  have n3 := zn_rg E3
  have n4 := zn_rg E4
  refine ex_al oq_X12_gateLine_0 rfl ?_
  obtain ⟨x101, ax101, rx101, lx101, ux101⟩ := fi_gatesRead hT
  refine ex_gf oq_X12_gateLine_1 hT (k := 111) (d := 12) rfl rfl ax101 ?_
  have rx101 := (rx101.symm.trans hc : x101.toInt = (l.length : Int))
  refine ex_ic oq_X12_gateLine_4 (m := 4) (by decide) (fun x102 hx102 => ?_)
  refine ex_if oq_X12_gateLine_5 (t := 14) rfl rfl (fun (c103 : ¬ x101.toInt = x102.toInt) => ?_) (fun (c103 : ¬ (¬ x101.toInt = x102.toInt)) => ?_)
  · refine ex_al oq_X12_gateLine_14 rfl ?_
    refine ex_cv oq_X12_gateLine_15 (by decide) hT (k := 111) (d := 12) (as := []) (stk := []) rfl rfl rfl rfl rfl rfl ⟨rfl, rfl⟩ (R := fun o => ∃ hb : cv_H, o = (none, hb) ∧ cw_T G hb ∧ cw_Fr cw_Ds cw_sh kk_X12_token.2.2.2.2.2.1 h0 hb ∧ zR t n (zx t n p) hb) (rt_tok (t := t) (n := n) (p := (zx t n p)) (fun i hi => by rw [ht i hi, ← hA _ Fh0]) hn9 (fun i hi => by rw [hB _ Fh0]; exact hwr i hi) hT (zx_le (by omega)) (by omega) (by omega) (fun hb b1 b2 b3 => ⟨hb, rfl, b1, b2, b3⟩)) (fun o ho => ?_)
    obtain ⟨h104, rfl, Th104, Ch104, Zh104⟩ := ho
    show cw_X _ _ _ _ _ [] h104
    have Fh104 : cw_Fr cw_Ds cw_sh mk_gz h0 h104 := cw_Fr_tr Fh0 (cw_Fr_mono (by decide +kernel) Ch104)
    have eh104_111_4 : ri_at h104 111 4 = ri_at h0 111 4 := ri_frf Ch104 (d := 12) rfl rfl (by decide +kernel)
    have eh104_111_5 : ri_at h104 111 5 = ri_at h0 111 5 := ri_frf Ch104 (d := 12) rfl rfl (by decide +kernel)
    have eh104_111_11 : ri_at h104 111 11 = ri_at h0 111 11 := ri_frf Ch104 (d := 12) rfl rfl (by decide +kernel)
    have eh104_111_16 : ri_at h104 111 16 = (l.length : Int) := (ri_frf Ch104 (d := 12) rfl rfl (by decide +kernel)).trans hc
    have eh104_111_18 : ri_at h104 111 18 = (cn.length : Int) := (ri_frf Ch104 (d := 12) rfl rfl (by decide +kernel)).trans hcc
    have eh104_r1 : ri_at h104 119 (b + 1) = ri_at h0 119 (b + 1) := ri_frq Ch104 (k := 119) (d := 58) rfl rfl (by decide) (by decide +kernel)
    have eh104_r14 : ri_at h104 119 (b + 14) = ri_at h0 119 (b + 14) := ri_frq Ch104 (k := 119) (d := 58) rfl rfl (by decide) (by decide +kernel)
    obtain ⟨yah104, ybh104, ych104, ydh104, -⟩ := id Zh104
    have zlh104 := zx_le (t := t) (n := n) (p := (zx t n p)) (by omega)
    refine ex_al oq_X12_gateLine_18 rfl ?_
    refine ex_al oq_X12_gateLine_19 rfl ?_
    refine ex_gf oq_X12_gateLine_20 Th104 (k := 111) (d := 12) rfl rfl (fr_gateName Th104) ?_
    refine ex_ic oq_X12_gateLine_23 (m := 4) (by decide) (fun x105 hx105 => ?_)
    refine ex_al oq_X12_gateLine_24 rfl ?_
    obtain ⟨x106, ax106, rx106, lx106, ux106⟩ := fi_gatesRead Th104
    refine ex_gf oq_X12_gateLine_25 Th104 (k := 111) (d := 12) rfl rfl ax106 ?_
    have rx106 := (rx106.symm.trans eh104_111_16 : x106.toInt = (l.length : Int))
    have hlh104 : ∀ k, k < l.length → ri_at h104 118 (4 + k) = l.getD k 0 := fun k hk => by rw [show ri_at h104 118 (4 + k) = ri_at h0 118 (4 + k) from (ri_frr Ch104 (k := 118) (d := 57) rfl rfl (by decide +kernel))]; exact hl k hk
    refine ex_cv oq_X12_gateLine_28 (by decide) Th104 (k := 111) (d := 12) (as := [cv_r 118, cv_i x105, cv_i x106]) (stk := []) rfl rfl rfl rfl rfl rfl ⟨rfl, rfl⟩ (R := fun o => ∃ (x : Int32) (hb : cv_H), o = (some (cv_i x), hb) ∧ cw_T G hb ∧ cw_Fr cw_Ds cw_sh kk_X12_newName.2.2.2.2.2.1 h104 hb ∧ zRe t n h104 hb x (zm t n l (zx t n p)) (fun v => (∀ k, k < l.length → ri_at hb 118 (4 + k) = l.getD k 0) ∧ ri_at hb 118 (4 + l.length) = v)) (rt_newNameG (t := t) (n := n) (p := (zx t n p)) (l := l) (fun i hi => by rw [ht i hi, ← hA _ Fh104]) hn9 Th104 (fun i hi => by rw [hB _ Fh104]; exact hwr i hi) (by omega) Zh104 (by omega) (by omega) (by omega) hlh104 (fun x hb b1 b2 b3 => ⟨x, hb, rfl, b1, b2, b3⟩)) (fun o ho => ?_)
    obtain ⟨x107, h108, rfl, Th108, Ch108, dx107⟩ := ho
    show cw_X _ _ _ _ _ [cv_i x107] h108
    have Fh108 : cw_Fr cw_Ds cw_sh mk_gz h0 h108 := cw_Fr_tr Fh104 (cw_Fr_mono (by decide +kernel) Ch108)
    rw [E1] at dx107
    obtain ⟨wx107, lx107, Zh108, Dh108⟩ := zRe_r dx107
    clear dx107
    have eh108_111_16 : ri_at h108 111 16 = (l.length : Int) := (ri_frf Ch108 (d := 12) rfl rfl (by decide +kernel)).trans eh104_111_16
    clear eh104_111_16
    have eh108_111_18 : ri_at h108 111 18 = (cn.length : Int) := (ri_frf Ch108 (d := 12) rfl rfl (by decide +kernel)).trans eh104_111_18
    clear eh104_111_18
    have eh108_r1 : ri_at h108 119 (b + 1) = ri_at h0 119 (b + 1) := (ri_frq Ch108 (k := 119) (d := 58) rfl rfl (by decide) (by decide +kernel)).trans eh104_r1
    clear eh104_r1
    have eh108_r14 : ri_at h108 119 (b + 14) = ri_at h0 119 (b + 14) := (ri_frq Ch108 (k := 119) (d := 58) rfl rfl (by decide) (by decide +kernel)).trans eh104_r14
    clear eh104_r14
    obtain ⟨yah108, ybh108, ych108, ydh108, -⟩ := id Zh108
    have zlh108 := zx_le (t := t) (n := n) (p := p1) (by omega)
    clear yah104 ybh104 ych104 ydh104
    refine ex_if0 oq_X12_gateLine_31 (t := 36) rfl rfl (fun (c109 : ¬ x107.toInt = 0) => ?_) (fun (c109 : ¬ (¬ x107.toInt = 0)) => ?_)
    · refine ex_bi oq_X12_gateLine_36 (m := 64) (by decide) (fun x110 hx110 => ?_)
      refine ex_bi oq_X12_gateLine_38 (m := 16) (by decide) (fun x111 hx111 => ?_)
      refine ex_al oq_X12_gateLine_40 rfl ?_
      obtain ⟨x112, ax112, rx112, lx112, ux112⟩ := fi_gatesRead Th108
      refine ex_gf oq_X12_gateLine_41 Th108 (k := 111) (d := 12) rfl rfl ax112 ?_
      have rx112 := (rx112.symm.trans eh108_111_16 : x112.toInt = (l.length : Int))
      refine ex_mul oq_X12_gateLine_44 (m := 16 * x112.toInt) (by rw [hx111]) (by omega) (fun x113 hx113 => ?_)
      refine ex_add oq_X12_gateLine_45 (by omega) (fun x114 hx114 => ?_)
      refine ex_isA oq_X12_gateLine_46 (fun L115 gL115_1 kL115 => ?_)
      have gL115_0 : cv_get L115 0 = some (cv_r 111) := kL115 0 _ (by decide) (fun _ => rfl) rfl
      refine ex_al oq_X12_gateLine_47 gL115_0 ?_
      refine ex_bi oq_X12_gateLine_48 (m := 24) (by decide) (fun x116 hx116 => ?_)
      refine ex_si oq_X12_gateLine_50 (m := 144) (by decide) (fun x117 hx117 => ?_)
      refine ex_cv oq_X12_gateLine_53 (by decide) Th108 (k := 111) (d := 12) (as := [cv_i x116, cv_i x117]) (stk := []) rfl rfl rfl rfl rfl rfl ⟨rfl, rfl⟩ (R := fun o => ∃ (x : Int32) (hb : cv_H), o = (some (cv_i x), hb) ∧ cw_T G hb ∧ cw_Fr cw_Ds cw_sh kk_X12_number.2.2.2.2.2.1 h108 hb ∧ zRe t n h108 hb x (zn t n x116.toInt x117.toInt p1) (fun v => ri_at hb 111 11 = v)) (rt_number (t := t) (n := n) (p := p1) (fun i hi => by rw [ht i hi, ← hA _ Fh108]) hn9 Th108 (fun i hi => by rw [hB _ Fh108]; exact hwr i hi) (by omega) Zh108 x116 x117 (fun x hb b1 b2 b3 => ⟨x, hb, rfl, b1, b2, b3⟩)) (fun o ho => ?_)
      obtain ⟨x118, h119, rfl, Th119, Ch119, dx118⟩ := ho
      show cw_X _ _ _ _ _ [cv_i x118] h119
      have Fh119 : cw_Fr cw_Ds cw_sh mk_gz h0 h119 := cw_Fr_tr Fh108 (cw_Fr_mono (by decide +kernel) Ch119)
      rw [hx116, hx117] at dx118
      rw [E2] at dx118
      obtain ⟨wx118, lx118, Zh119, Dh119⟩ := zRe_r dx118
      clear dx118
      have eh119_111_16 : ri_at h119 111 16 = (l.length : Int) := (ri_frf Ch119 (d := 12) rfl rfl (by decide +kernel)).trans eh108_111_16
      clear eh108_111_16
      have eh119_111_18 : ri_at h119 111 18 = (cn.length : Int) := (ri_frf Ch119 (d := 12) rfl rfl (by decide +kernel)).trans eh108_111_18
      clear eh108_111_18
      have eh119_r1 : ri_at h119 119 (b + 1) = ri_at h0 119 (b + 1) := (ri_frq Ch119 (k := 119) (d := 58) rfl rfl (by decide) (by decide +kernel)).trans eh108_r1
      clear eh108_r1
      have eh119_r14 : ri_at h119 119 (b + 14) = ri_at h0 119 (b + 14) := (ri_frq Ch119 (k := 119) (d := 58) rfl rfl (by decide) (by decide +kernel)).trans eh108_r14
      clear eh108_r14
      obtain ⟨yah119, ybh119, ych119, ydh119, -⟩ := id Zh119
      have zlh119 := zx_le (t := t) (n := n) (p := p2) (by omega)
      clear yah108 ybh108 ych108 ydh108
      refine ex_if0 oq_X12_gateLine_56 (t := 61) rfl rfl (fun (c120 : ¬ x118.toInt = 0) => ?_) (fun (c120 : ¬ (¬ x118.toInt = 0)) => ?_)
      · refine ex_al oq_X12_gateLine_61 gL115_0 ?_
        refine ex_gf oq_X12_gateLine_62 Th119 (k := 111) (d := 12) rfl rfl (fr_gateHas Th119) ?_
        refine ex_il oq_X12_gateLine_65 gL115_1 ?_
        refine ex_al oq_X12_gateLine_66 gL115_0 ?_
        obtain ⟨x121, ax121, rx121, lx121, ux121⟩ := fi_got Th119
        refine ex_gf oq_X12_gateLine_67 Th119 (k := 111) (d := 12) rfl rfl ax121 ?_
        have rx121 := (rx121.symm.trans Dh119 : x121.toInt = a)
        refine ex_iw oq_X12_gateLine_70 Th119 (k := 119) (d := 58) (j := b) rfl rfl (by omega) (by omega) (fun r hr => gh_get hr _ (cw_i32 _)) (fun h122 Th122 wh122 => ?_)
        have Fh122 : cw_Fr cw_Ds cw_sh mk_gz h0 h122 := cw_Fr_tr Fh119 (cw_Fr_wrr wh122 (k := 119) (d := 58) rfl rfl (by decide +kernel))
        have eh122_111_4 : ri_at h122 111 4 = ri_at h119 111 4 := ri_ne wh122 (.inl (by decide))
        have eh122_111_5 : ri_at h122 111 5 = ri_at h119 111 5 := ri_ne wh122 (.inl (by decide))
        have eh122_111_6 : ri_at h122 111 6 = (n : Int) := (ri_ne wh122 (.inl (by decide))).trans yah119
        have eh122_111_7 : ri_at h122 111 7 = ((zx t n p2 : Nat) : Int) := (ri_ne wh122 (.inl (by decide))).trans ych119
        have eh122_111_8 : ri_at h122 111 8 = zk t n p2 := (ri_ne wh122 (.inl (by decide))).trans ydh119
        have eh122_111_10 : ri_at h122 111 10 = ((za t n p2 : Nat) : Int) := (ri_ne wh122 (.inl (by decide))).trans ybh119
        have eh122_111_11 : ri_at h122 111 11 = a := (ri_ne wh122 (.inl (by decide))).trans Dh119
        have eh122_111_16 : ri_at h122 111 16 = (l.length : Int) := (ri_ne wh122 (.inl (by decide))).trans eh119_111_16
        clear eh119_111_16
        have eh122_111_18 : ri_at h122 111 18 = (cn.length : Int) := (ri_ne wh122 (.inl (by decide))).trans eh119_111_18
        clear eh119_111_18
        have eh122_r1 : ri_at h122 119 (b + 1) = ri_at h0 119 (b + 1) := (ri_ne wh122 (.inr (by omega))).trans eh119_r1
        clear eh119_r1
        have eh122_r14 : ri_at h122 119 (b + 14) = ri_at h0 119 (b + 14) := (ri_ne wh122 (.inr (by omega))).trans eh119_r14
        clear eh119_r14
        have Zh122 := zR_wr wh122 Zh119 (.inl (by decide))
        refine ex_al oq_X12_gateLine_71 gL115_0 ?_
        refine ex_bi oq_X12_gateLine_72 (m := 24) (by decide) (fun x123 hx123 => ?_)
        refine ex_bi oq_X12_gateLine_74 (m := 72) (by decide) (fun x124 hx124 => ?_)
        refine ex_cv oq_X12_gateLine_76 (by decide) Th122 (k := 111) (d := 12) (as := [cv_i x123, cv_i x124]) (stk := []) rfl rfl rfl rfl rfl rfl ⟨rfl, rfl⟩ (R := fun o => ∃ (x : Int32) (hb : cv_H), o = (some (cv_i x), hb) ∧ cw_T G hb ∧ cw_Fr cw_Ds cw_sh kk_X12_number.2.2.2.2.2.1 h122 hb ∧ zRe t n h122 hb x (zn t n x123.toInt x124.toInt p2) (fun v => ri_at hb 111 11 = v)) (rt_number (t := t) (n := n) (p := p2) (fun i hi => by rw [ht i hi, ← hA _ Fh122]) hn9 Th122 (fun i hi => by rw [hB _ Fh122]; exact hwr i hi) (by omega) Zh122 x123 x124 (fun x hb b1 b2 b3 => ⟨x, hb, rfl, b1, b2, b3⟩)) (fun o ho => ?_)
        obtain ⟨x125, h126, rfl, Th126, Ch126, dx125⟩ := ho
        show cw_X _ _ _ _ _ [cv_i x125] h126
        have Fh126 : cw_Fr cw_Ds cw_sh mk_gz h0 h126 := cw_Fr_tr Fh122 (cw_Fr_mono (by decide +kernel) Ch126)
        rw [hx123, hx124] at dx125
        rw [E3] at dx125
        obtain ⟨wx125, lx125, Zh126, Dh126⟩ := zRe_r dx125
        clear dx125
        have eh126_111_16 : ri_at h126 111 16 = (l.length : Int) := (ri_frf Ch126 (d := 12) rfl rfl (by decide +kernel)).trans eh122_111_16
        clear eh122_111_16
        have eh126_111_18 : ri_at h126 111 18 = (cn.length : Int) := (ri_frf Ch126 (d := 12) rfl rfl (by decide +kernel)).trans eh122_111_18
        clear eh122_111_18
        have eh126_r1 : ri_at h126 119 (b + 1) = ri_at h0 119 (b + 1) := (ri_frq Ch126 (k := 119) (d := 58) rfl rfl (by decide) (by decide +kernel)).trans eh122_r1
        clear eh122_r1
        have eh126_r14 : ri_at h126 119 (b + 14) = ri_at h0 119 (b + 14) := (ri_frq Ch126 (k := 119) (d := 58) rfl rfl (by decide) (by decide +kernel)).trans eh122_r14
        clear eh122_r14
        obtain ⟨yah126, ybh126, ych126, ydh126, -⟩ := id Zh126
        have zlh126 := zx_le (t := t) (n := n) (p := p3) (by omega)
        clear eh122_111_6 eh122_111_10 eh122_111_7 eh122_111_8
        refine ex_if0 oq_X12_gateLine_79 (t := 84) rfl rfl (fun (c127 : ¬ x125.toInt = 0) => ?_) (fun (c127 : ¬ (¬ x125.toInt = 0)) => ?_)
        · refine ex_al oq_X12_gateLine_84 gL115_0 ?_
          refine ex_gf oq_X12_gateLine_85 Th126 (k := 111) (d := 12) rfl rfl (fr_gateHas Th126) ?_
          refine ex_il oq_X12_gateLine_88 gL115_1 ?_
          refine ex_ic oq_X12_gateLine_89 (m := 1) (by decide) (fun x128 hx128 => ?_)
          refine ex_add oq_X12_gateLine_90 (by omega) (fun x129 hx129 => ?_)
          refine ex_al oq_X12_gateLine_91 gL115_0 ?_
          obtain ⟨x130, ax130, rx130, lx130, ux130⟩ := fi_got Th126
          refine ex_gf oq_X12_gateLine_92 Th126 (k := 111) (d := 12) rfl rfl ax130 ?_
          have rx130 := (rx130.symm.trans Dh126 : x130.toInt = hh)
          refine ex_iw oq_X12_gateLine_95 Th126 (k := 119) (d := 58) (j := b + 1) rfl rfl (by omega) (by omega) (fun r hr => gh_get hr _ (cw_i32 _)) (fun h131 Th131 wh131 => ?_)
          have Fh131 : cw_Fr cw_Ds cw_sh mk_gz h0 h131 := cw_Fr_tr Fh126 (cw_Fr_wrr wh131 (k := 119) (d := 58) rfl rfl (by decide +kernel))
          have eh131_111_4 : ri_at h131 111 4 = ri_at h126 111 4 := ri_ne wh131 (.inl (by decide))
          have eh131_111_5 : ri_at h131 111 5 = ri_at h126 111 5 := ri_ne wh131 (.inl (by decide))
          have eh131_111_6 : ri_at h131 111 6 = (n : Int) := (ri_ne wh131 (.inl (by decide))).trans yah126
          have eh131_111_7 : ri_at h131 111 7 = ((zx t n p3 : Nat) : Int) := (ri_ne wh131 (.inl (by decide))).trans ych126
          have eh131_111_8 : ri_at h131 111 8 = zk t n p3 := (ri_ne wh131 (.inl (by decide))).trans ydh126
          have eh131_111_10 : ri_at h131 111 10 = ((za t n p3 : Nat) : Int) := (ri_ne wh131 (.inl (by decide))).trans ybh126
          have eh131_111_11 : ri_at h131 111 11 = hh := (ri_ne wh131 (.inl (by decide))).trans Dh126
          have eh131_111_16 : ri_at h131 111 16 = (l.length : Int) := (ri_ne wh131 (.inl (by decide))).trans eh126_111_16
          clear eh126_111_16
          have eh131_111_18 : ri_at h131 111 18 = (cn.length : Int) := (ri_ne wh131 (.inl (by decide))).trans eh126_111_18
          clear eh126_111_18
          have eh131_r1 : ri_at h131 119 (b + 1) = x130.toInt := ri_self wh131
          have eh131_r14 : ri_at h131 119 (b + 14) = ri_at h0 119 (b + 14) := (ri_ne wh131 (.inr (by omega))).trans eh126_r14
          clear eh126_r14
          have Zh131 := zR_wr wh131 Zh126 (.inl (by decide))
          refine ex_al oq_X12_gateLine_96 gL115_0 ?_
          refine ex_bi oq_X12_gateLine_97 (m := 20) (by decide) (fun x132 hx132 => ?_)
          refine ex_si oq_X12_gateLine_99 (m := 400) (by decide) (fun x133 hx133 => ?_)
          refine ex_cv oq_X12_gateLine_102 (by decide) Th131 (k := 111) (d := 12) (as := [cv_i x132, cv_i x133]) (stk := []) rfl rfl rfl rfl rfl rfl ⟨rfl, rfl⟩ (R := fun o => ∃ (x : Int32) (hb : cv_H), o = (some (cv_i x), hb) ∧ cw_T G hb ∧ cw_Fr cw_Ds cw_sh kk_X12_number.2.2.2.2.2.1 h131 hb ∧ zRe t n h131 hb x (zn t n x132.toInt x133.toInt p3) (fun v => ri_at hb 111 11 = v)) (rt_number (t := t) (n := n) (p := p3) (fun i hi => by rw [ht i hi, ← hA _ Fh131]) hn9 Th131 (fun i hi => by rw [hB _ Fh131]; exact hwr i hi) (by omega) Zh131 x132 x133 (fun x hb b1 b2 b3 => ⟨x, hb, rfl, b1, b2, b3⟩)) (fun o ho => ?_)
          obtain ⟨x134, h135, rfl, Th135, Ch135, dx134⟩ := ho
          show cw_X _ _ _ _ _ [cv_i x134] h135
          have Fh135 : cw_Fr cw_Ds cw_sh mk_gz h0 h135 := cw_Fr_tr Fh131 (cw_Fr_mono (by decide +kernel) Ch135)
          rw [hx132, hx133] at dx134
          rw [E4] at dx134
          obtain ⟨wx134, lx134, Zh135, Dh135⟩ := zRe_r dx134
          clear dx134
          have eh135_111_16 : ri_at h135 111 16 = (l.length : Int) := (ri_frf Ch135 (d := 12) rfl rfl (by decide +kernel)).trans eh131_111_16
          clear eh131_111_16
          have eh135_111_18 : ri_at h135 111 18 = (cn.length : Int) := (ri_frf Ch135 (d := 12) rfl rfl (by decide +kernel)).trans eh131_111_18
          clear eh131_111_18
          have eh135_r1 : ri_at h135 119 (b + 1) = x130.toInt := (ri_frq Ch135 (k := 119) (d := 58) rfl rfl (by decide) (by decide +kernel)).trans eh131_r1
          clear eh131_r1
          have eh135_r14 : ri_at h135 119 (b + 14) = ri_at h0 119 (b + 14) := (ri_frq Ch135 (k := 119) (d := 58) rfl rfl (by decide) (by decide +kernel)).trans eh131_r14
          clear eh131_r14
          obtain ⟨yah135, ybh135, ych135, ydh135, -⟩ := id Zh135
          have zlh135 := zx_le (t := t) (n := n) (p := p4) (by omega)
          clear eh131_111_6 eh131_111_10 eh131_111_7 eh131_111_8
          refine ex_if0 oq_X12_gateLine_105 (t := 110) rfl rfl (fun (c136 : ¬ x134.toInt = 0) => ?_) (fun (c136 : ¬ (¬ x134.toInt = 0)) => ?_)
          · refine ex_al oq_X12_gateLine_110 gL115_0 ?_
            refine ex_gf oq_X12_gateLine_111 Th135 (k := 111) (d := 12) rfl rfl (fr_gateHas Th135) ?_
            refine ex_il oq_X12_gateLine_114 gL115_1 ?_
            refine ex_ic oq_X12_gateLine_115 (m := 2) (by decide) (fun x137 hx137 => ?_)
            refine ex_add oq_X12_gateLine_116 (by omega) (fun x138 hx138 => ?_)
            refine ex_al oq_X12_gateLine_117 gL115_0 ?_
            obtain ⟨x139, ax139, rx139, lx139, ux139⟩ := fi_got Th135
            refine ex_gf oq_X12_gateLine_118 Th135 (k := 111) (d := 12) rfl rfl ax139 ?_
            have rx139 := (rx139.symm.trans Dh135 : x139.toInt = w)
            refine ex_iw oq_X12_gateLine_121 Th135 (k := 119) (d := 58) (j := b + 2) rfl rfl (by omega) (by omega) (fun r hr => gh_get hr _ (cw_i32 _)) (fun h140 Th140 wh140 => ?_)
            have Fh140 : cw_Fr cw_Ds cw_sh mk_gz h0 h140 := cw_Fr_tr Fh135 (cw_Fr_wrr wh140 (k := 119) (d := 58) rfl rfl (by decide +kernel))
            have eh140_111_4 : ri_at h140 111 4 = ri_at h135 111 4 := ri_ne wh140 (.inl (by decide))
            have eh140_111_5 : ri_at h140 111 5 = ri_at h135 111 5 := ri_ne wh140 (.inl (by decide))
            have eh140_111_6 : ri_at h140 111 6 = (n : Int) := (ri_ne wh140 (.inl (by decide))).trans yah135
            have eh140_111_7 : ri_at h140 111 7 = ((zx t n p4 : Nat) : Int) := (ri_ne wh140 (.inl (by decide))).trans ych135
            have eh140_111_8 : ri_at h140 111 8 = zk t n p4 := (ri_ne wh140 (.inl (by decide))).trans ydh135
            have eh140_111_10 : ri_at h140 111 10 = ((za t n p4 : Nat) : Int) := (ri_ne wh140 (.inl (by decide))).trans ybh135
            have eh140_111_11 : ri_at h140 111 11 = w := (ri_ne wh140 (.inl (by decide))).trans Dh135
            have eh140_111_16 : ri_at h140 111 16 = (l.length : Int) := (ri_ne wh140 (.inl (by decide))).trans eh135_111_16
            clear eh135_111_16
            have eh140_111_18 : ri_at h140 111 18 = (cn.length : Int) := (ri_ne wh140 (.inl (by decide))).trans eh135_111_18
            clear eh135_111_18
            have eh140_r1 : ri_at h140 119 (b + 1) = x130.toInt := (ri_ne wh140 (.inr (by omega))).trans eh135_r1
            clear eh135_r1
            have eh140_r14 : ri_at h140 119 (b + 14) = ri_at h0 119 (b + 14) := (ri_ne wh140 (.inr (by omega))).trans eh135_r14
            clear eh135_r14
            have Zh140 := zR_wr wh140 Zh135 (.inl (by decide))
            refine ex_al oq_X12_gateLine_122 gL115_0 ?_
            refine ex_gf oq_X12_gateLine_123 Th140 (k := 111) (d := 12) rfl rfl (fr_gateHas Th140) ?_
            refine ex_il oq_X12_gateLine_126 gL115_1 ?_
            refine ex_ic oq_X12_gateLine_127 (m := 3) (by decide) (fun x141 hx141 => ?_)
            refine ex_add oq_X12_gateLine_128 (by omega) (fun x142 hx142 => ?_)
            refine ex_bi oq_X12_gateLine_129 (m := 6) (by decide) (fun x143 hx143 => ?_)
            refine ex_iw oq_X12_gateLine_131 Th140 (k := 119) (d := 58) (j := b + 3) rfl rfl (by omega) (by omega) (fun r hr => gh_get hr _ (cw_i32 _)) (fun h144 Th144 wh144 => ?_)
            have Fh144 : cw_Fr cw_Ds cw_sh mk_gz h0 h144 := cw_Fr_tr Fh140 (cw_Fr_wrr wh144 (k := 119) (d := 58) rfl rfl (by decide +kernel))
            have eh144_111_4 : ri_at h144 111 4 = ri_at h135 111 4 := (ri_ne wh144 (.inl (by decide))).trans eh140_111_4
            clear eh140_111_4
            have eh144_111_5 : ri_at h144 111 5 = ri_at h135 111 5 := (ri_ne wh144 (.inl (by decide))).trans eh140_111_5
            clear eh140_111_5
            have eh144_111_6 : ri_at h144 111 6 = (n : Int) := (ri_ne wh144 (.inl (by decide))).trans eh140_111_6
            clear eh140_111_6
            have eh144_111_7 : ri_at h144 111 7 = ((zx t n p4 : Nat) : Int) := (ri_ne wh144 (.inl (by decide))).trans eh140_111_7
            clear eh140_111_7
            have eh144_111_8 : ri_at h144 111 8 = zk t n p4 := (ri_ne wh144 (.inl (by decide))).trans eh140_111_8
            clear eh140_111_8
            have eh144_111_10 : ri_at h144 111 10 = ((za t n p4 : Nat) : Int) := (ri_ne wh144 (.inl (by decide))).trans eh140_111_10
            clear eh140_111_10
            have eh144_111_11 : ri_at h144 111 11 = w := (ri_ne wh144 (.inl (by decide))).trans eh140_111_11
            clear eh140_111_11
            have eh144_111_16 : ri_at h144 111 16 = (l.length : Int) := (ri_ne wh144 (.inl (by decide))).trans eh140_111_16
            clear eh140_111_16
            have eh144_111_18 : ri_at h144 111 18 = (cn.length : Int) := (ri_ne wh144 (.inl (by decide))).trans eh140_111_18
            clear eh140_111_18
            have eh144_r1 : ri_at h144 119 (b + 1) = x130.toInt := (ri_ne wh144 (.inr (by omega))).trans eh140_r1
            clear eh140_r1
            have eh144_r14 : ri_at h144 119 (b + 14) = ri_at h0 119 (b + 14) := (ri_ne wh144 (.inr (by omega))).trans eh140_r14
            clear eh140_r14
            have Zh144 := zR_wr wh144 Zh140 (.inl (by decide))
            refine ex_al oq_X12_gateLine_132 gL115_0 ?_
            refine ex_gf oq_X12_gateLine_133 Th144 (k := 111) (d := 12) rfl rfl (fr_gateHas Th144) ?_
            refine ex_il oq_X12_gateLine_136 gL115_1 ?_
            refine ex_ic oq_X12_gateLine_137 (m := 4) (by decide) (fun x145 hx145 => ?_)
            refine ex_add oq_X12_gateLine_138 (by omega) (fun x146 hx146 => ?_)
            refine ex_al oq_X12_gateLine_139 gL115_0 ?_
            refine ex_gf oq_X12_gateLine_140 Th144 (k := 111) (d := 12) rfl rfl (fr_gateHas Th144) ?_
            refine ex_il oq_X12_gateLine_143 gL115_1 ?_
            refine ex_ic oq_X12_gateLine_144 (m := 1) (by decide) (fun x147 hx147 => ?_)
            refine ex_add oq_X12_gateLine_145 (by omega) (fun x148 hx148 => ?_)
            refine ex_iap oq_X12_gateLine_146 Th144 (k := 119) (d := 58) (j := b + 1) rfl rfl (by omega) (by omega) (fun x149 hx149 => ?_)
            have hx149 := (hx149.symm.trans eh144_r1 : x149.toInt = x130.toInt)
            refine ex_bi oq_X12_gateLine_147 (m := 6) (by decide) (fun x150 hx150 => ?_)
            refine ex_sub oq_X12_gateLine_149 (by omega) (fun x151 hx151 => ?_)
            refine ex_iw oq_X12_gateLine_150 Th144 (k := 119) (d := 58) (j := b + 4) rfl rfl (by omega) (by omega) (fun r hr => gh_get hr _ (cw_i32 _)) (fun h152 Th152 wh152 => ?_)
            have Fh152 : cw_Fr cw_Ds cw_sh mk_gz h0 h152 := cw_Fr_tr Fh144 (cw_Fr_wrr wh152 (k := 119) (d := 58) rfl rfl (by decide +kernel))
            have eh152_111_4 : ri_at h152 111 4 = ri_at h135 111 4 := (ri_ne wh152 (.inl (by decide))).trans eh144_111_4
            clear eh144_111_4
            have eh152_111_5 : ri_at h152 111 5 = ri_at h135 111 5 := (ri_ne wh152 (.inl (by decide))).trans eh144_111_5
            clear eh144_111_5
            have eh152_111_6 : ri_at h152 111 6 = (n : Int) := (ri_ne wh152 (.inl (by decide))).trans eh144_111_6
            clear eh144_111_6
            have eh152_111_7 : ri_at h152 111 7 = ((zx t n p4 : Nat) : Int) := (ri_ne wh152 (.inl (by decide))).trans eh144_111_7
            clear eh144_111_7
            have eh152_111_8 : ri_at h152 111 8 = zk t n p4 := (ri_ne wh152 (.inl (by decide))).trans eh144_111_8
            clear eh144_111_8
            have eh152_111_10 : ri_at h152 111 10 = ((za t n p4 : Nat) : Int) := (ri_ne wh152 (.inl (by decide))).trans eh144_111_10
            clear eh144_111_10
            have eh152_111_11 : ri_at h152 111 11 = w := (ri_ne wh152 (.inl (by decide))).trans eh144_111_11
            clear eh144_111_11
            have eh152_111_16 : ri_at h152 111 16 = (l.length : Int) := (ri_ne wh152 (.inl (by decide))).trans eh144_111_16
            clear eh144_111_16
            have eh152_111_18 : ri_at h152 111 18 = (cn.length : Int) := (ri_ne wh152 (.inl (by decide))).trans eh144_111_18
            clear eh144_111_18
            have eh152_r1 : ri_at h152 119 (b + 1) = x130.toInt := (ri_ne wh152 (.inr (by omega))).trans eh144_r1
            clear eh144_r1
            have eh152_r14 : ri_at h152 119 (b + 14) = ri_at h0 119 (b + 14) := (ri_ne wh152 (.inr (by omega))).trans eh144_r14
            clear eh144_r14
            have Zh152 := zR_wr wh152 Zh144 (.inl (by decide))
            refine ex_al oq_X12_gateLine_151 gL115_0 ?_
            refine ex_gf oq_X12_gateLine_152 Th152 (k := 111) (d := 12) rfl rfl (fr_gateHas Th152) ?_
            refine ex_il oq_X12_gateLine_155 gL115_1 ?_
            refine ex_ic oq_X12_gateLine_156 (m := 5) (by decide) (fun x153 hx153 => ?_)
            refine ex_add oq_X12_gateLine_157 (by omega) (fun x154 hx154 => ?_)
            refine ex_ic oq_X12_gateLine_158 (m := 0) (by decide) (fun x155 hx155 => ?_)
            refine ex_iw oq_X12_gateLine_159 Th152 (k := 119) (d := 58) (j := b + 5) rfl rfl (by omega) (by omega) (fun r hr => gh_get hr _ (cw_i32 _)) (fun h156 Th156 wh156 => ?_)
            have Fh156 : cw_Fr cw_Ds cw_sh mk_gz h0 h156 := cw_Fr_tr Fh152 (cw_Fr_wrr wh156 (k := 119) (d := 58) rfl rfl (by decide +kernel))
            have eh156_111_4 : ri_at h156 111 4 = ri_at h135 111 4 := (ri_ne wh156 (.inl (by decide))).trans eh152_111_4
            clear eh152_111_4
            have eh156_111_5 : ri_at h156 111 5 = ri_at h135 111 5 := (ri_ne wh156 (.inl (by decide))).trans eh152_111_5
            clear eh152_111_5
            have eh156_111_6 : ri_at h156 111 6 = (n : Int) := (ri_ne wh156 (.inl (by decide))).trans eh152_111_6
            clear eh152_111_6
            have eh156_111_7 : ri_at h156 111 7 = ((zx t n p4 : Nat) : Int) := (ri_ne wh156 (.inl (by decide))).trans eh152_111_7
            clear eh152_111_7
            have eh156_111_8 : ri_at h156 111 8 = zk t n p4 := (ri_ne wh156 (.inl (by decide))).trans eh152_111_8
            clear eh152_111_8
            have eh156_111_10 : ri_at h156 111 10 = ((za t n p4 : Nat) : Int) := (ri_ne wh156 (.inl (by decide))).trans eh152_111_10
            clear eh152_111_10
            have eh156_111_11 : ri_at h156 111 11 = w := (ri_ne wh156 (.inl (by decide))).trans eh152_111_11
            clear eh152_111_11
            have eh156_111_16 : ri_at h156 111 16 = (l.length : Int) := (ri_ne wh156 (.inl (by decide))).trans eh152_111_16
            clear eh152_111_16
            have eh156_111_18 : ri_at h156 111 18 = (cn.length : Int) := (ri_ne wh156 (.inl (by decide))).trans eh152_111_18
            clear eh152_111_18
            have eh156_r1 : ri_at h156 119 (b + 1) = x130.toInt := (ri_ne wh156 (.inr (by omega))).trans eh152_r1
            clear eh152_r1
            have eh156_r14 : ri_at h156 119 (b + 14) = ri_at h0 119 (b + 14) := (ri_ne wh156 (.inr (by omega))).trans eh152_r14
            clear eh152_r14
            have Zh156 := zR_wr wh156 Zh152 (.inl (by decide))
            refine ex_al oq_X12_gateLine_160 gL115_0 ?_
            refine ex_gf oq_X12_gateLine_161 Th156 (k := 111) (d := 12) rfl rfl (fr_gateHas Th156) ?_
            refine ex_il oq_X12_gateLine_164 gL115_1 ?_
            refine ex_bi oq_X12_gateLine_165 (m := 6) (by decide) (fun x157 hx157 => ?_)
            refine ex_add oq_X12_gateLine_167 (by omega) (fun x158 hx158 => ?_)
            refine ex_ic oq_X12_gateLine_168 (m := 0) (by decide) (fun x159 hx159 => ?_)
            refine ex_iw oq_X12_gateLine_169 Th156 (k := 119) (d := 58) (j := b + 6) rfl rfl (by omega) (by omega) (fun r hr => gh_get hr _ (cw_i32 _)) (fun h160 Th160 wh160 => ?_)
            have Fh160 : cw_Fr cw_Ds cw_sh mk_gz h0 h160 := cw_Fr_tr Fh156 (cw_Fr_wrr wh160 (k := 119) (d := 58) rfl rfl (by decide +kernel))
            have eh160_111_4 : ri_at h160 111 4 = ri_at h135 111 4 := (ri_ne wh160 (.inl (by decide))).trans eh156_111_4
            clear eh156_111_4
            have eh160_111_5 : ri_at h160 111 5 = ri_at h135 111 5 := (ri_ne wh160 (.inl (by decide))).trans eh156_111_5
            clear eh156_111_5
            have eh160_111_6 : ri_at h160 111 6 = (n : Int) := (ri_ne wh160 (.inl (by decide))).trans eh156_111_6
            clear eh156_111_6
            have eh160_111_7 : ri_at h160 111 7 = ((zx t n p4 : Nat) : Int) := (ri_ne wh160 (.inl (by decide))).trans eh156_111_7
            clear eh156_111_7
            have eh160_111_8 : ri_at h160 111 8 = zk t n p4 := (ri_ne wh160 (.inl (by decide))).trans eh156_111_8
            clear eh156_111_8
            have eh160_111_10 : ri_at h160 111 10 = ((za t n p4 : Nat) : Int) := (ri_ne wh160 (.inl (by decide))).trans eh156_111_10
            clear eh156_111_10
            have eh160_111_11 : ri_at h160 111 11 = w := (ri_ne wh160 (.inl (by decide))).trans eh156_111_11
            clear eh156_111_11
            have eh160_111_16 : ri_at h160 111 16 = (l.length : Int) := (ri_ne wh160 (.inl (by decide))).trans eh156_111_16
            clear eh156_111_16
            have eh160_111_18 : ri_at h160 111 18 = (cn.length : Int) := (ri_ne wh160 (.inl (by decide))).trans eh156_111_18
            clear eh156_111_18
            have eh160_r1 : ri_at h160 119 (b + 1) = x130.toInt := (ri_ne wh160 (.inr (by omega))).trans eh156_r1
            clear eh156_r1
            have eh160_r14 : ri_at h160 119 (b + 14) = ri_at h0 119 (b + 14) := (ri_ne wh160 (.inr (by omega))).trans eh156_r14
            clear eh156_r14
            have Zh160 := zR_wr wh160 Zh156 (.inl (by decide))
            refine ex_al oq_X12_gateLine_170 gL115_0 ?_
            refine ex_gf oq_X12_gateLine_171 Th160 (k := 111) (d := 12) rfl rfl (fr_gateHas Th160) ?_
            refine ex_il oq_X12_gateLine_174 gL115_1 ?_
            refine ex_bi oq_X12_gateLine_175 (m := 7) (by decide) (fun x161 hx161 => ?_)
            refine ex_add oq_X12_gateLine_177 (by omega) (fun x162 hx162 => ?_)
            refine ex_bi oq_X12_gateLine_178 (m := 36) (by decide) (fun x163 hx163 => ?_)
            refine ex_iw oq_X12_gateLine_180 Th160 (k := 119) (d := 58) (j := b + 7) rfl rfl (by omega) (by omega) (fun r hr => gh_get hr _ (cw_i32 _)) (fun h164 Th164 wh164 => ?_)
            have Fh164 : cw_Fr cw_Ds cw_sh mk_gz h0 h164 := cw_Fr_tr Fh160 (cw_Fr_wrr wh164 (k := 119) (d := 58) rfl rfl (by decide +kernel))
            have eh164_111_4 : ri_at h164 111 4 = ri_at h135 111 4 := (ri_ne wh164 (.inl (by decide))).trans eh160_111_4
            clear eh160_111_4
            have eh164_111_5 : ri_at h164 111 5 = ri_at h135 111 5 := (ri_ne wh164 (.inl (by decide))).trans eh160_111_5
            clear eh160_111_5
            have eh164_111_6 : ri_at h164 111 6 = (n : Int) := (ri_ne wh164 (.inl (by decide))).trans eh160_111_6
            clear eh160_111_6
            have eh164_111_7 : ri_at h164 111 7 = ((zx t n p4 : Nat) : Int) := (ri_ne wh164 (.inl (by decide))).trans eh160_111_7
            clear eh160_111_7
            have eh164_111_8 : ri_at h164 111 8 = zk t n p4 := (ri_ne wh164 (.inl (by decide))).trans eh160_111_8
            clear eh160_111_8
            have eh164_111_10 : ri_at h164 111 10 = ((za t n p4 : Nat) : Int) := (ri_ne wh164 (.inl (by decide))).trans eh160_111_10
            clear eh160_111_10
            have eh164_111_11 : ri_at h164 111 11 = w := (ri_ne wh164 (.inl (by decide))).trans eh160_111_11
            clear eh160_111_11
            have eh164_111_16 : ri_at h164 111 16 = (l.length : Int) := (ri_ne wh164 (.inl (by decide))).trans eh160_111_16
            clear eh160_111_16
            have eh164_111_18 : ri_at h164 111 18 = (cn.length : Int) := (ri_ne wh164 (.inl (by decide))).trans eh160_111_18
            clear eh160_111_18
            have eh164_r1 : ri_at h164 119 (b + 1) = x130.toInt := (ri_ne wh164 (.inr (by omega))).trans eh160_r1
            clear eh160_r1
            have eh164_r14 : ri_at h164 119 (b + 14) = ri_at h0 119 (b + 14) := (ri_ne wh164 (.inr (by omega))).trans eh160_r14
            clear eh160_r14
            have Zh164 := zR_wr wh164 Zh160 (.inl (by decide))
            refine ex_al oq_X12_gateLine_181 gL115_0 ?_
            refine ex_gf oq_X12_gateLine_182 Th164 (k := 111) (d := 12) rfl rfl (fr_gateHas Th164) ?_
            refine ex_il oq_X12_gateLine_185 gL115_1 ?_
            refine ex_bi oq_X12_gateLine_186 (m := 8) (by decide) (fun x165 hx165 => ?_)
            refine ex_add oq_X12_gateLine_188 (by omega) (fun x166 hx166 => ?_)
            refine ex_bi oq_X12_gateLine_189 (m := 8) (by decide) (fun x167 hx167 => ?_)
            refine ex_iw oq_X12_gateLine_191 Th164 (k := 119) (d := 58) (j := b + 8) rfl rfl (by omega) (by omega) (fun r hr => gh_get hr _ (cw_i32 _)) (fun h168 Th168 wh168 => ?_)
            have Fh168 : cw_Fr cw_Ds cw_sh mk_gz h0 h168 := cw_Fr_tr Fh164 (cw_Fr_wrr wh168 (k := 119) (d := 58) rfl rfl (by decide +kernel))
            have eh168_111_4 : ri_at h168 111 4 = ri_at h135 111 4 := (ri_ne wh168 (.inl (by decide))).trans eh164_111_4
            clear eh164_111_4
            have eh168_111_5 : ri_at h168 111 5 = ri_at h135 111 5 := (ri_ne wh168 (.inl (by decide))).trans eh164_111_5
            clear eh164_111_5
            have eh168_111_6 : ri_at h168 111 6 = (n : Int) := (ri_ne wh168 (.inl (by decide))).trans eh164_111_6
            clear eh164_111_6
            have eh168_111_7 : ri_at h168 111 7 = ((zx t n p4 : Nat) : Int) := (ri_ne wh168 (.inl (by decide))).trans eh164_111_7
            clear eh164_111_7
            have eh168_111_8 : ri_at h168 111 8 = zk t n p4 := (ri_ne wh168 (.inl (by decide))).trans eh164_111_8
            clear eh164_111_8
            have eh168_111_10 : ri_at h168 111 10 = ((za t n p4 : Nat) : Int) := (ri_ne wh168 (.inl (by decide))).trans eh164_111_10
            clear eh164_111_10
            have eh168_111_11 : ri_at h168 111 11 = w := (ri_ne wh168 (.inl (by decide))).trans eh164_111_11
            clear eh164_111_11
            have eh168_111_16 : ri_at h168 111 16 = (l.length : Int) := (ri_ne wh168 (.inl (by decide))).trans eh164_111_16
            clear eh164_111_16
            have eh168_111_18 : ri_at h168 111 18 = (cn.length : Int) := (ri_ne wh168 (.inl (by decide))).trans eh164_111_18
            clear eh164_111_18
            have eh168_r1 : ri_at h168 119 (b + 1) = x130.toInt := (ri_ne wh168 (.inr (by omega))).trans eh164_r1
            clear eh164_r1
            have eh168_r14 : ri_at h168 119 (b + 14) = ri_at h0 119 (b + 14) := (ri_ne wh168 (.inr (by omega))).trans eh164_r14
            clear eh164_r14
            have Zh168 := zR_wr wh168 Zh164 (.inl (by decide))
            refine ex_al oq_X12_gateLine_192 gL115_0 ?_
            refine ex_gf oq_X12_gateLine_193 Th168 (k := 111) (d := 12) rfl rfl (fr_gateHas Th168) ?_
            refine ex_il oq_X12_gateLine_196 gL115_1 ?_
            refine ex_bi oq_X12_gateLine_197 (m := 9) (by decide) (fun x169 hx169 => ?_)
            refine ex_add oq_X12_gateLine_199 (by omega) (fun x170 hx170 => ?_)
            refine ex_ic oq_X12_gateLine_200 (m := 0) (by decide) (fun x171 hx171 => ?_)
            refine ex_iw oq_X12_gateLine_201 Th168 (k := 119) (d := 58) (j := b + 9) rfl rfl (by omega) (by omega) (fun r hr => gh_get hr _ (cw_i32 _)) (fun h172 Th172 wh172 => ?_)
            have Fh172 : cw_Fr cw_Ds cw_sh mk_gz h0 h172 := cw_Fr_tr Fh168 (cw_Fr_wrr wh172 (k := 119) (d := 58) rfl rfl (by decide +kernel))
            have eh172_111_4 : ri_at h172 111 4 = ri_at h135 111 4 := (ri_ne wh172 (.inl (by decide))).trans eh168_111_4
            clear eh168_111_4
            have eh172_111_5 : ri_at h172 111 5 = ri_at h135 111 5 := (ri_ne wh172 (.inl (by decide))).trans eh168_111_5
            clear eh168_111_5
            have eh172_111_6 : ri_at h172 111 6 = (n : Int) := (ri_ne wh172 (.inl (by decide))).trans eh168_111_6
            clear eh168_111_6
            have eh172_111_7 : ri_at h172 111 7 = ((zx t n p4 : Nat) : Int) := (ri_ne wh172 (.inl (by decide))).trans eh168_111_7
            clear eh168_111_7
            have eh172_111_8 : ri_at h172 111 8 = zk t n p4 := (ri_ne wh172 (.inl (by decide))).trans eh168_111_8
            clear eh168_111_8
            have eh172_111_10 : ri_at h172 111 10 = ((za t n p4 : Nat) : Int) := (ri_ne wh172 (.inl (by decide))).trans eh168_111_10
            clear eh168_111_10
            have eh172_111_11 : ri_at h172 111 11 = w := (ri_ne wh172 (.inl (by decide))).trans eh168_111_11
            clear eh168_111_11
            have eh172_111_16 : ri_at h172 111 16 = (l.length : Int) := (ri_ne wh172 (.inl (by decide))).trans eh168_111_16
            clear eh168_111_16
            have eh172_111_18 : ri_at h172 111 18 = (cn.length : Int) := (ri_ne wh172 (.inl (by decide))).trans eh168_111_18
            clear eh168_111_18
            have eh172_r1 : ri_at h172 119 (b + 1) = x130.toInt := (ri_ne wh172 (.inr (by omega))).trans eh168_r1
            clear eh168_r1
            have eh172_r14 : ri_at h172 119 (b + 14) = ri_at h0 119 (b + 14) := (ri_ne wh172 (.inr (by omega))).trans eh168_r14
            clear eh168_r14
            have Zh172 := zR_wr wh172 Zh168 (.inl (by decide))
            refine ex_al oq_X12_gateLine_202 gL115_0 ?_
            refine ex_gf oq_X12_gateLine_203 Th172 (k := 111) (d := 12) rfl rfl (fr_gateHas Th172) ?_
            refine ex_il oq_X12_gateLine_206 gL115_1 ?_
            refine ex_bi oq_X12_gateLine_207 (m := 10) (by decide) (fun x173 hx173 => ?_)
            refine ex_add oq_X12_gateLine_209 (by omega) (fun x174 hx174 => ?_)
            refine ex_si oq_X12_gateLine_210 (m := 1000) (by decide) (fun x175 hx175 => ?_)
            refine ex_iw oq_X12_gateLine_213 Th172 (k := 119) (d := 58) (j := b + 10) rfl rfl (by omega) (by omega) (fun r hr => gh_get hr _ (cw_i32 _)) (fun h176 Th176 wh176 => ?_)
            have Fh176 : cw_Fr cw_Ds cw_sh mk_gz h0 h176 := cw_Fr_tr Fh172 (cw_Fr_wrr wh176 (k := 119) (d := 58) rfl rfl (by decide +kernel))
            have eh176_111_4 : ri_at h176 111 4 = ri_at h135 111 4 := (ri_ne wh176 (.inl (by decide))).trans eh172_111_4
            clear eh172_111_4
            have eh176_111_5 : ri_at h176 111 5 = ri_at h135 111 5 := (ri_ne wh176 (.inl (by decide))).trans eh172_111_5
            clear eh172_111_5
            have eh176_111_6 : ri_at h176 111 6 = (n : Int) := (ri_ne wh176 (.inl (by decide))).trans eh172_111_6
            clear eh172_111_6
            have eh176_111_7 : ri_at h176 111 7 = ((zx t n p4 : Nat) : Int) := (ri_ne wh176 (.inl (by decide))).trans eh172_111_7
            clear eh172_111_7
            have eh176_111_8 : ri_at h176 111 8 = zk t n p4 := (ri_ne wh176 (.inl (by decide))).trans eh172_111_8
            clear eh172_111_8
            have eh176_111_10 : ri_at h176 111 10 = ((za t n p4 : Nat) : Int) := (ri_ne wh176 (.inl (by decide))).trans eh172_111_10
            clear eh172_111_10
            have eh176_111_11 : ri_at h176 111 11 = w := (ri_ne wh176 (.inl (by decide))).trans eh172_111_11
            clear eh172_111_11
            have eh176_111_16 : ri_at h176 111 16 = (l.length : Int) := (ri_ne wh176 (.inl (by decide))).trans eh172_111_16
            clear eh172_111_16
            have eh176_111_18 : ri_at h176 111 18 = (cn.length : Int) := (ri_ne wh176 (.inl (by decide))).trans eh172_111_18
            clear eh172_111_18
            have eh176_r1 : ri_at h176 119 (b + 1) = x130.toInt := (ri_ne wh176 (.inr (by omega))).trans eh172_r1
            clear eh172_r1
            have eh176_r14 : ri_at h176 119 (b + 14) = ri_at h0 119 (b + 14) := (ri_ne wh176 (.inr (by omega))).trans eh172_r14
            clear eh172_r14
            have Zh176 := zR_wr wh176 Zh172 (.inl (by decide))
            refine ex_al oq_X12_gateLine_214 gL115_0 ?_
            refine ex_gf oq_X12_gateLine_215 Th176 (k := 111) (d := 12) rfl rfl (fr_gateHas Th176) ?_
            refine ex_il oq_X12_gateLine_218 gL115_1 ?_
            refine ex_bi oq_X12_gateLine_219 (m := 11) (by decide) (fun x177 hx177 => ?_)
            refine ex_add oq_X12_gateLine_221 (by omega) (fun x178 hx178 => ?_)
            refine ex_si oq_X12_gateLine_222 (m := 1000) (by decide) (fun x179 hx179 => ?_)
            refine ex_iw oq_X12_gateLine_225 Th176 (k := 119) (d := 58) (j := b + 11) rfl rfl (by omega) (by omega) (fun r hr => gh_get hr _ (cw_i32 _)) (fun h180 Th180 wh180 => ?_)
            have Fh180 : cw_Fr cw_Ds cw_sh mk_gz h0 h180 := cw_Fr_tr Fh176 (cw_Fr_wrr wh180 (k := 119) (d := 58) rfl rfl (by decide +kernel))
            have eh180_111_4 : ri_at h180 111 4 = ri_at h135 111 4 := (ri_ne wh180 (.inl (by decide))).trans eh176_111_4
            clear eh176_111_4
            have eh180_111_5 : ri_at h180 111 5 = ri_at h135 111 5 := (ri_ne wh180 (.inl (by decide))).trans eh176_111_5
            clear eh176_111_5
            have eh180_111_6 : ri_at h180 111 6 = (n : Int) := (ri_ne wh180 (.inl (by decide))).trans eh176_111_6
            clear eh176_111_6
            have eh180_111_7 : ri_at h180 111 7 = ((zx t n p4 : Nat) : Int) := (ri_ne wh180 (.inl (by decide))).trans eh176_111_7
            clear eh176_111_7
            have eh180_111_8 : ri_at h180 111 8 = zk t n p4 := (ri_ne wh180 (.inl (by decide))).trans eh176_111_8
            clear eh176_111_8
            have eh180_111_10 : ri_at h180 111 10 = ((za t n p4 : Nat) : Int) := (ri_ne wh180 (.inl (by decide))).trans eh176_111_10
            clear eh176_111_10
            have eh180_111_11 : ri_at h180 111 11 = w := (ri_ne wh180 (.inl (by decide))).trans eh176_111_11
            clear eh176_111_11
            have eh180_111_16 : ri_at h180 111 16 = (l.length : Int) := (ri_ne wh180 (.inl (by decide))).trans eh176_111_16
            clear eh176_111_16
            have eh180_111_18 : ri_at h180 111 18 = (cn.length : Int) := (ri_ne wh180 (.inl (by decide))).trans eh176_111_18
            clear eh176_111_18
            have eh180_r1 : ri_at h180 119 (b + 1) = x130.toInt := (ri_ne wh180 (.inr (by omega))).trans eh176_r1
            clear eh176_r1
            have eh180_r14 : ri_at h180 119 (b + 14) = ri_at h0 119 (b + 14) := (ri_ne wh180 (.inr (by omega))).trans eh176_r14
            clear eh176_r14
            have Zh180 := zR_wr wh180 Zh176 (.inl (by decide))
            refine ex_al oq_X12_gateLine_226 gL115_0 ?_
            refine ex_gf oq_X12_gateLine_227 Th180 (k := 111) (d := 12) rfl rfl (fr_gateHas Th180) ?_
            refine ex_il oq_X12_gateLine_230 gL115_1 ?_
            refine ex_bi oq_X12_gateLine_231 (m := 12) (by decide) (fun x181 hx181 => ?_)
            refine ex_add oq_X12_gateLine_233 (by omega) (fun x182 hx182 => ?_)
            refine ex_ic oq_X12_gateLine_234 (m := 0) (by decide) (fun x183 hx183 => ?_)
            refine ex_iw oq_X12_gateLine_235 Th180 (k := 119) (d := 58) (j := b + 12) rfl rfl (by omega) (by omega) (fun r hr => gh_get hr _ (cw_i32 _)) (fun h184 Th184 wh184 => ?_)
            have Fh184 : cw_Fr cw_Ds cw_sh mk_gz h0 h184 := cw_Fr_tr Fh180 (cw_Fr_wrr wh184 (k := 119) (d := 58) rfl rfl (by decide +kernel))
            have eh184_111_4 : ri_at h184 111 4 = ri_at h135 111 4 := (ri_ne wh184 (.inl (by decide))).trans eh180_111_4
            clear eh180_111_4
            have eh184_111_5 : ri_at h184 111 5 = ri_at h135 111 5 := (ri_ne wh184 (.inl (by decide))).trans eh180_111_5
            clear eh180_111_5
            have eh184_111_6 : ri_at h184 111 6 = (n : Int) := (ri_ne wh184 (.inl (by decide))).trans eh180_111_6
            clear eh180_111_6
            have eh184_111_7 : ri_at h184 111 7 = ((zx t n p4 : Nat) : Int) := (ri_ne wh184 (.inl (by decide))).trans eh180_111_7
            clear eh180_111_7
            have eh184_111_8 : ri_at h184 111 8 = zk t n p4 := (ri_ne wh184 (.inl (by decide))).trans eh180_111_8
            clear eh180_111_8
            have eh184_111_10 : ri_at h184 111 10 = ((za t n p4 : Nat) : Int) := (ri_ne wh184 (.inl (by decide))).trans eh180_111_10
            clear eh180_111_10
            have eh184_111_11 : ri_at h184 111 11 = w := (ri_ne wh184 (.inl (by decide))).trans eh180_111_11
            clear eh180_111_11
            have eh184_111_16 : ri_at h184 111 16 = (l.length : Int) := (ri_ne wh184 (.inl (by decide))).trans eh180_111_16
            clear eh180_111_16
            have eh184_111_18 : ri_at h184 111 18 = (cn.length : Int) := (ri_ne wh184 (.inl (by decide))).trans eh180_111_18
            clear eh180_111_18
            have eh184_r1 : ri_at h184 119 (b + 1) = x130.toInt := (ri_ne wh184 (.inr (by omega))).trans eh180_r1
            clear eh180_r1
            have eh184_r14 : ri_at h184 119 (b + 14) = ri_at h0 119 (b + 14) := (ri_ne wh184 (.inr (by omega))).trans eh180_r14
            clear eh180_r14
            have Zh184 := zR_wr wh184 Zh180 (.inl (by decide))
            refine ex_al oq_X12_gateLine_236 gL115_0 ?_
            refine ex_gf oq_X12_gateLine_237 Th184 (k := 111) (d := 12) rfl rfl (fr_gateHas Th184) ?_
            refine ex_il oq_X12_gateLine_240 gL115_1 ?_
            refine ex_bi oq_X12_gateLine_241 (m := 13) (by decide) (fun x185 hx185 => ?_)
            refine ex_add oq_X12_gateLine_243 (by omega) (fun x186 hx186 => ?_)
            refine ex_si oq_X12_gateLine_244 (m := 3000) (by decide) (fun x187 hx187 => ?_)
            refine ex_iw oq_X12_gateLine_247 Th184 (k := 119) (d := 58) (j := b + 13) rfl rfl (by omega) (by omega) (fun r hr => gh_get hr _ (cw_i32 _)) (fun h188 Th188 wh188 => ?_)
            have Fh188 : cw_Fr cw_Ds cw_sh mk_gz h0 h188 := cw_Fr_tr Fh184 (cw_Fr_wrr wh188 (k := 119) (d := 58) rfl rfl (by decide +kernel))
            have eh188_111_4 : ri_at h188 111 4 = ri_at h135 111 4 := (ri_ne wh188 (.inl (by decide))).trans eh184_111_4
            clear eh184_111_4
            have eh188_111_5 : ri_at h188 111 5 = ri_at h135 111 5 := (ri_ne wh188 (.inl (by decide))).trans eh184_111_5
            clear eh184_111_5
            have eh188_111_6 : ri_at h188 111 6 = (n : Int) := (ri_ne wh188 (.inl (by decide))).trans eh184_111_6
            clear eh184_111_6
            have eh188_111_7 : ri_at h188 111 7 = ((zx t n p4 : Nat) : Int) := (ri_ne wh188 (.inl (by decide))).trans eh184_111_7
            clear eh184_111_7
            have eh188_111_8 : ri_at h188 111 8 = zk t n p4 := (ri_ne wh188 (.inl (by decide))).trans eh184_111_8
            clear eh184_111_8
            have eh188_111_10 : ri_at h188 111 10 = ((za t n p4 : Nat) : Int) := (ri_ne wh188 (.inl (by decide))).trans eh184_111_10
            clear eh184_111_10
            have eh188_111_11 : ri_at h188 111 11 = w := (ri_ne wh188 (.inl (by decide))).trans eh184_111_11
            clear eh184_111_11
            have eh188_111_16 : ri_at h188 111 16 = (l.length : Int) := (ri_ne wh188 (.inl (by decide))).trans eh184_111_16
            clear eh184_111_16
            have eh188_111_18 : ri_at h188 111 18 = (cn.length : Int) := (ri_ne wh188 (.inl (by decide))).trans eh184_111_18
            clear eh184_111_18
            have eh188_r1 : ri_at h188 119 (b + 1) = x130.toInt := (ri_ne wh188 (.inr (by omega))).trans eh184_r1
            clear eh184_r1
            have eh188_r14 : ri_at h188 119 (b + 14) = ri_at h0 119 (b + 14) := (ri_ne wh188 (.inr (by omega))).trans eh184_r14
            clear eh184_r14
            have Zh188 := zR_wr wh188 Zh184 (.inl (by decide))
            refine ex_al oq_X12_gateLine_248 gL115_0 ?_
            refine ex_gf oq_X12_gateLine_249 Th188 (k := 111) (d := 12) rfl rfl (fr_gateHas Th188) ?_
            refine ex_il oq_X12_gateLine_252 gL115_1 ?_
            refine ex_bi oq_X12_gateLine_253 (m := 14) (by decide) (fun x189 hx189 => ?_)
            refine ex_add oq_X12_gateLine_255 (by omega) (fun x190 hx190 => ?_)
            refine ex_ic oq_X12_gateLine_256 (m := 0) (by decide) (fun x191 hx191 => ?_)
            refine ex_iw oq_X12_gateLine_257 Th188 (k := 119) (d := 58) (j := b + 14) rfl rfl (by omega) (by omega) (fun r hr => gh_get hr _ (cw_i32 _)) (fun h192 Th192 wh192 => ?_)
            have Fh192 : cw_Fr cw_Ds cw_sh mk_gz h0 h192 := cw_Fr_tr Fh188 (cw_Fr_wrr wh192 (k := 119) (d := 58) rfl rfl (by decide +kernel))
            have eh192_111_4 : ri_at h192 111 4 = ri_at h135 111 4 := (ri_ne wh192 (.inl (by decide))).trans eh188_111_4
            clear eh188_111_4
            have eh192_111_5 : ri_at h192 111 5 = ri_at h135 111 5 := (ri_ne wh192 (.inl (by decide))).trans eh188_111_5
            clear eh188_111_5
            have eh192_111_6 : ri_at h192 111 6 = (n : Int) := (ri_ne wh192 (.inl (by decide))).trans eh188_111_6
            clear eh188_111_6
            have eh192_111_7 : ri_at h192 111 7 = ((zx t n p4 : Nat) : Int) := (ri_ne wh192 (.inl (by decide))).trans eh188_111_7
            clear eh188_111_7
            have eh192_111_8 : ri_at h192 111 8 = zk t n p4 := (ri_ne wh192 (.inl (by decide))).trans eh188_111_8
            clear eh188_111_8
            have eh192_111_10 : ri_at h192 111 10 = ((za t n p4 : Nat) : Int) := (ri_ne wh192 (.inl (by decide))).trans eh188_111_10
            clear eh188_111_10
            have eh192_111_11 : ri_at h192 111 11 = w := (ri_ne wh192 (.inl (by decide))).trans eh188_111_11
            clear eh188_111_11
            have eh192_111_16 : ri_at h192 111 16 = (l.length : Int) := (ri_ne wh192 (.inl (by decide))).trans eh188_111_16
            clear eh188_111_16
            have eh192_111_18 : ri_at h192 111 18 = (cn.length : Int) := (ri_ne wh192 (.inl (by decide))).trans eh188_111_18
            clear eh188_111_18
            have eh192_r1 : ri_at h192 119 (b + 1) = x130.toInt := (ri_ne wh192 (.inr (by omega))).trans eh188_r1
            clear eh188_r1
            have eh192_r14 : ri_at h192 119 (b + 14) = x191.toInt := ri_self wh192
            have Zh192 := zR_wr wh192 Zh188 (.inl (by decide))
            refine ex_ic oq_X12_gateLine_258 (m := 0) (by decide) (fun x193 hx193 => ?_)
            refine ex_isA oq_X12_gateLine_259 (fun L194 gL194_2 kL194 => ?_)
            have gL194_1 : cv_get L194 1 = some (cv_i x114) := kL194 1 _ (by decide) (fun _ => rfl) gL115_1
            have gL194_0 : cv_get L194 0 = some (cv_r 111) := kL194 0 _ (by decide) (fun q => absurd q (by decide)) gL115_0
            refine gl_rsD (h0 := h192) (u := l.length) (by omega) (fun h195 L195 Th195 Ch195 z0h195 loh195 G0 G1 => ?_) 9 0 h192 L194 x193 rfl (by omega) (by omega) Th192 cw_Fr_refl (by omega) (fun j hj => absurd hj (Nat.not_lt_zero j)) (fun _ _ => rfl) gL194_0 gL194_1 gL194_2
            have Fh195 : cw_Fr cw_Ds cw_sh mk_gz h0 h195 := cw_Fr_tr Fh192 (cw_Fr_mono (by decide +kernel) Ch195)
            have eh195_111_4 : ri_at h195 111 4 = ri_at h135 111 4 := (ri_frf Ch195 (d := 12) rfl rfl (by decide +kernel)).trans eh192_111_4
            clear eh192_111_4
            have eh195_111_5 : ri_at h195 111 5 = ri_at h135 111 5 := (ri_frf Ch195 (d := 12) rfl rfl (by decide +kernel)).trans eh192_111_5
            clear eh192_111_5
            have eh195_111_6 : ri_at h195 111 6 = (n : Int) := (ri_frf Ch195 (d := 12) rfl rfl (by decide +kernel)).trans eh192_111_6
            clear eh192_111_6
            have eh195_111_7 : ri_at h195 111 7 = ((zx t n p4 : Nat) : Int) := (ri_frf Ch195 (d := 12) rfl rfl (by decide +kernel)).trans eh192_111_7
            clear eh192_111_7
            have eh195_111_8 : ri_at h195 111 8 = zk t n p4 := (ri_frf Ch195 (d := 12) rfl rfl (by decide +kernel)).trans eh192_111_8
            clear eh192_111_8
            have eh195_111_10 : ri_at h195 111 10 = ((za t n p4 : Nat) : Int) := (ri_frf Ch195 (d := 12) rfl rfl (by decide +kernel)).trans eh192_111_10
            clear eh192_111_10
            have eh195_111_11 : ri_at h195 111 11 = w := (ri_frf Ch195 (d := 12) rfl rfl (by decide +kernel)).trans eh192_111_11
            clear eh192_111_11
            have eh195_111_16 : ri_at h195 111 16 = (l.length : Int) := (ri_frf Ch195 (d := 12) rfl rfl (by decide +kernel)).trans eh192_111_16
            clear eh192_111_16
            have eh195_111_18 : ri_at h195 111 18 = (cn.length : Int) := (ri_frf Ch195 (d := 12) rfl rfl (by decide +kernel)).trans eh192_111_18
            clear eh192_111_18
            have eh195_r1 : ri_at h195 119 (b + 1) = x130.toInt := (ri_frq Ch195 (k := 119) (d := 58) rfl rfl (by decide) (by decide +kernel)).trans eh192_r1
            clear eh192_r1
            have eh195_r14 : ri_at h195 119 (b + 14) = x191.toInt := (ri_frq Ch195 (k := 119) (d := 58) rfl rfl (by decide) (by decide +kernel)).trans eh192_r14
            clear eh192_r14
            have Zh195 := zR_fr Ch195 Zh192 (by decide +kernel)
            refine ex_ic oq_X12_gateLine_290 (m := 0) (by decide) (fun x196 hx196 => ?_)
            refine ex_isA oq_X12_gateLine_291 (fun L197 gL197_2 kL197 => ?_)
            have gL197_0 : cv_get L197 0 = some (cv_r 111) := kL197 0 _ (by decide) (fun q => absurd q (by decide)) G0
            have gL197_1 : cv_get L197 1 = some (cv_i x114) := kL197 1 _ (by decide) (fun _ => rfl) G1
            refine ex_al oq_X12_gateLine_292 gL197_0 ?_
            refine ex_cv oq_X12_gateLine_293 (by decide) Th195 (k := 111) (d := 12) (as := []) (stk := []) rfl rfl rfl rfl rfl rfl ⟨rfl, rfl⟩ (R := fun o => ∃ x : Int32, o = (some (cv_i x), h195) ∧ x.toInt = zhw (zk t n p4) (zw t n p4)) (rt_hasWord (t := t) (n := n) (p := p4) Th195 Zh195 (fun x q => ⟨x, rfl, q⟩)) (fun o ho => ?_)
            obtain ⟨x198, rfl, wx198⟩ := ho
            show cw_X _ _ _ _ _ [cv_i x198] h195
            refine ex_isA oq_X12_gateLine_296 (fun L199 gL199_3 kL199 => ?_)
            have gL199_2 : cv_get L199 2 = some (cv_i x196) := kL199 2 _ (by decide) (fun _ => rfl) gL197_2
            have gL199_0 : cv_get L199 0 = some (cv_r 111) := kL199 0 _ (by decide) (fun q => absurd q (by decide)) gL197_0
            have gL199_1 : cv_get L199 1 = some (cv_i x114) := kL199 1 _ (by decide) (fun q => absurd q (by decide)) gL197_1
            have hclh195 : ∀ k, k < cn.length → ri_at h195 123 (6 + k) = cn.getD k 0 := fun k hk => by rw [show ri_at h195 123 (6 + k) = ri_at h0 123 (6 + k) from ri_frr Fh195 (k := 123) (d := 62) rfl rfl (by decide +kernel)]; exact hcl k hk
            have kBh195 : zKB b l.length h0 h195 := ⟨fun i hi => ((ri_frq Ch195 (k := 119) (d := 58) rfl rfl (by decide) (by decide +kernel)).trans ((ri_ne wh192 (.inr (by omega))).trans ((ri_ne wh188 (.inr (by omega))).trans ((ri_ne wh184 (.inr (by omega))).trans ((ri_ne wh180 (.inr (by omega))).trans ((ri_ne wh176 (.inr (by omega))).trans ((ri_ne wh172 (.inr (by omega))).trans ((ri_ne wh168 (.inr (by omega))).trans ((ri_ne wh164 (.inr (by omega))).trans ((ri_ne wh160 (.inr (by omega))).trans ((ri_ne wh156 (.inr (by omega))).trans ((ri_ne wh152 (.inr (by omega))).trans ((ri_ne wh144 (.inr (by omega))).trans ((ri_ne wh140 (.inr (by omega))).trans ((ri_frq Ch135 (k := 119) (d := 58) rfl rfl (by decide) (by decide +kernel)).trans ((ri_ne wh131 (.inr (by omega))).trans ((ri_frq Ch126 (k := 119) (d := 58) rfl rfl (by decide) (by decide +kernel)).trans ((ri_ne wh122 (.inr (by omega))).trans ((ri_frq Ch119 (k := 119) (d := 58) rfl rfl (by decide) (by decide +kernel)).trans ((ri_frq Ch108 (k := 119) (d := 58) rfl rfl (by decide) (by decide +kernel)).trans (ri_frq Ch104 (k := 119) (d := 58) rfl rfl (by decide) (by decide +kernel)))))))))))))))))))))), fun i hi => ((loh195 _ (by omega)).trans ((ri_ne wh192 (.inl (by decide))).trans ((ri_ne wh188 (.inl (by decide))).trans ((ri_ne wh184 (.inl (by decide))).trans ((ri_ne wh180 (.inl (by decide))).trans ((ri_ne wh176 (.inl (by decide))).trans ((ri_ne wh172 (.inl (by decide))).trans ((ri_ne wh168 (.inl (by decide))).trans ((ri_ne wh164 (.inl (by decide))).trans ((ri_ne wh160 (.inl (by decide))).trans ((ri_ne wh156 (.inl (by decide))).trans ((ri_ne wh152 (.inl (by decide))).trans ((ri_ne wh144 (.inl (by decide))).trans ((ri_ne wh140 (.inl (by decide))).trans ((ri_frr Ch135 (k := 120) (d := 59) rfl rfl (by decide +kernel)).trans ((ri_ne wh131 (.inl (by decide))).trans ((ri_frr Ch126 (k := 120) (d := 59) rfl rfl (by decide +kernel)).trans ((ri_ne wh122 (.inl (by decide))).trans ((ri_frr Ch119 (k := 120) (d := 59) rfl rfl (by decide +kernel)).trans ((ri_frr Ch108 (k := 120) (d := 59) rfl rfl (by decide +kernel)).trans (ri_frr Ch104 (k := 120) (d := 59) rfl rfl (by decide +kernel))))))))))))))))))))))⟩
            have kDh195 : zKR h195 b l.length (zgB a hh w) := ⟨fun j hj => match j, hj with | 0, _ => (((ri_frq Ch195 (k := 119) (d := 58) rfl rfl (by decide) (by decide +kernel)).trans ((ri_ne wh192 (.inr (by omega))).trans ((ri_ne wh188 (.inr (by omega))).trans ((ri_ne wh184 (.inr (by omega))).trans ((ri_ne wh180 (.inr (by omega))).trans ((ri_ne wh176 (.inr (by omega))).trans ((ri_ne wh172 (.inr (by omega))).trans ((ri_ne wh168 (.inr (by omega))).trans ((ri_ne wh164 (.inr (by omega))).trans ((ri_ne wh160 (.inr (by omega))).trans ((ri_ne wh156 (.inr (by omega))).trans ((ri_ne wh152 (.inr (by omega))).trans ((ri_ne wh144 (.inr (by omega))).trans ((ri_ne wh140 (.inr (by omega))).trans ((ri_frq Ch135 (k := 119) (d := 58) rfl rfl (by decide) (by decide +kernel)).trans ((ri_ne wh131 (.inr (by omega))).trans ((ri_frq Ch126 (k := 119) (d := 58) rfl rfl (by decide) (by decide +kernel)).trans (ri_self wh122))))))))))))))))))).trans ((show x121.toInt = a from by omega).trans (show zgB a hh w 0 = a from zgB_l (by decide)).symm) | 1, _ => (((ri_frq Ch195 (k := 119) (d := 58) rfl rfl (by decide) (by decide +kernel)).trans ((ri_ne wh192 (.inr (by omega))).trans ((ri_ne wh188 (.inr (by omega))).trans ((ri_ne wh184 (.inr (by omega))).trans ((ri_ne wh180 (.inr (by omega))).trans ((ri_ne wh176 (.inr (by omega))).trans ((ri_ne wh172 (.inr (by omega))).trans ((ri_ne wh168 (.inr (by omega))).trans ((ri_ne wh164 (.inr (by omega))).trans ((ri_ne wh160 (.inr (by omega))).trans ((ri_ne wh156 (.inr (by omega))).trans ((ri_ne wh152 (.inr (by omega))).trans ((ri_ne wh144 (.inr (by omega))).trans ((ri_ne wh140 (.inr (by omega))).trans ((ri_frq Ch135 (k := 119) (d := 58) rfl rfl (by decide) (by decide +kernel)).trans (ri_self wh131))))))))))))))))).trans ((show x130.toInt = hh from by omega).trans (show zgB a hh w 1 = hh from zgB_l (by decide)).symm) | 2, _ => (((ri_frq Ch195 (k := 119) (d := 58) rfl rfl (by decide) (by decide +kernel)).trans ((ri_ne wh192 (.inr (by omega))).trans ((ri_ne wh188 (.inr (by omega))).trans ((ri_ne wh184 (.inr (by omega))).trans ((ri_ne wh180 (.inr (by omega))).trans ((ri_ne wh176 (.inr (by omega))).trans ((ri_ne wh172 (.inr (by omega))).trans ((ri_ne wh168 (.inr (by omega))).trans ((ri_ne wh164 (.inr (by omega))).trans ((ri_ne wh160 (.inr (by omega))).trans ((ri_ne wh156 (.inr (by omega))).trans ((ri_ne wh152 (.inr (by omega))).trans ((ri_ne wh144 (.inr (by omega))).trans (ri_self wh140))))))))))))))).trans ((show x139.toInt = w from by omega).trans (show zgB a hh w 2 = w from zgB_l (by decide)).symm) | 3, _ => (((ri_frq Ch195 (k := 119) (d := 58) rfl rfl (by decide) (by decide +kernel)).trans ((ri_ne wh192 (.inr (by omega))).trans ((ri_ne wh188 (.inr (by omega))).trans ((ri_ne wh184 (.inr (by omega))).trans ((ri_ne wh180 (.inr (by omega))).trans ((ri_ne wh176 (.inr (by omega))).trans ((ri_ne wh172 (.inr (by omega))).trans ((ri_ne wh168 (.inr (by omega))).trans ((ri_ne wh164 (.inr (by omega))).trans ((ri_ne wh160 (.inr (by omega))).trans ((ri_ne wh156 (.inr (by omega))).trans ((ri_ne wh152 (.inr (by omega))).trans (ri_self wh144)))))))))))))).trans ((show x143.toInt = 6 from by omega).trans (show zgB a hh w 3 = 6 from zgB_l (by decide)).symm) | 4, _ => (((ri_frq Ch195 (k := 119) (d := 58) rfl rfl (by decide) (by decide +kernel)).trans ((ri_ne wh192 (.inr (by omega))).trans ((ri_ne wh188 (.inr (by omega))).trans ((ri_ne wh184 (.inr (by omega))).trans ((ri_ne wh180 (.inr (by omega))).trans ((ri_ne wh176 (.inr (by omega))).trans ((ri_ne wh172 (.inr (by omega))).trans ((ri_ne wh168 (.inr (by omega))).trans ((ri_ne wh164 (.inr (by omega))).trans ((ri_ne wh160 (.inr (by omega))).trans ((ri_ne wh156 (.inr (by omega))).trans (ri_self wh152))))))))))))).trans ((show x151.toInt = hh - 6 from by omega).trans (show zgB a hh w 4 = hh - 6 from zgB_l (by decide)).symm) | 5, _ => (((ri_frq Ch195 (k := 119) (d := 58) rfl rfl (by decide) (by decide +kernel)).trans ((ri_ne wh192 (.inr (by omega))).trans ((ri_ne wh188 (.inr (by omega))).trans ((ri_ne wh184 (.inr (by omega))).trans ((ri_ne wh180 (.inr (by omega))).trans ((ri_ne wh176 (.inr (by omega))).trans ((ri_ne wh172 (.inr (by omega))).trans ((ri_ne wh168 (.inr (by omega))).trans ((ri_ne wh164 (.inr (by omega))).trans ((ri_ne wh160 (.inr (by omega))).trans (ri_self wh156)))))))))))).trans ((show x155.toInt = 0 from by omega).trans (show zgB a hh w 5 = 0 from zgB_l (by decide)).symm) | 6, _ => (((ri_frq Ch195 (k := 119) (d := 58) rfl rfl (by decide) (by decide +kernel)).trans ((ri_ne wh192 (.inr (by omega))).trans ((ri_ne wh188 (.inr (by omega))).trans ((ri_ne wh184 (.inr (by omega))).trans ((ri_ne wh180 (.inr (by omega))).trans ((ri_ne wh176 (.inr (by omega))).trans ((ri_ne wh172 (.inr (by omega))).trans ((ri_ne wh168 (.inr (by omega))).trans ((ri_ne wh164 (.inr (by omega))).trans (ri_self wh160))))))))))).trans ((show x159.toInt = 0 from by omega).trans (show zgB a hh w 6 = 0 from zgB_l (by decide)).symm) | 7, _ => (((ri_frq Ch195 (k := 119) (d := 58) rfl rfl (by decide) (by decide +kernel)).trans ((ri_ne wh192 (.inr (by omega))).trans ((ri_ne wh188 (.inr (by omega))).trans ((ri_ne wh184 (.inr (by omega))).trans ((ri_ne wh180 (.inr (by omega))).trans ((ri_ne wh176 (.inr (by omega))).trans ((ri_ne wh172 (.inr (by omega))).trans ((ri_ne wh168 (.inr (by omega))).trans (ri_self wh164)))))))))).trans ((show x163.toInt = 36 from by omega).trans (show zgB a hh w 7 = 36 from zgB_l (by decide)).symm) | 8, _ => (((ri_frq Ch195 (k := 119) (d := 58) rfl rfl (by decide) (by decide +kernel)).trans ((ri_ne wh192 (.inr (by omega))).trans ((ri_ne wh188 (.inr (by omega))).trans ((ri_ne wh184 (.inr (by omega))).trans ((ri_ne wh180 (.inr (by omega))).trans ((ri_ne wh176 (.inr (by omega))).trans ((ri_ne wh172 (.inr (by omega))).trans (ri_self wh168))))))))).trans ((show x167.toInt = 8 from by omega).trans (show zgB a hh w 8 = 8 from zgB_l (by decide)).symm) | 9, _ => (((ri_frq Ch195 (k := 119) (d := 58) rfl rfl (by decide) (by decide +kernel)).trans ((ri_ne wh192 (.inr (by omega))).trans ((ri_ne wh188 (.inr (by omega))).trans ((ri_ne wh184 (.inr (by omega))).trans ((ri_ne wh180 (.inr (by omega))).trans ((ri_ne wh176 (.inr (by omega))).trans (ri_self wh172)))))))).trans ((show x171.toInt = 0 from by omega).trans (show zgB a hh w 9 = 0 from zgB_l (by decide)).symm) | 10, _ => (((ri_frq Ch195 (k := 119) (d := 58) rfl rfl (by decide) (by decide +kernel)).trans ((ri_ne wh192 (.inr (by omega))).trans ((ri_ne wh188 (.inr (by omega))).trans ((ri_ne wh184 (.inr (by omega))).trans ((ri_ne wh180 (.inr (by omega))).trans (ri_self wh176))))))).trans ((show x175.toInt = 1000 from by omega).trans (show zgB a hh w 10 = 1000 from zgB_l (by decide)).symm) | 11, _ => (((ri_frq Ch195 (k := 119) (d := 58) rfl rfl (by decide) (by decide +kernel)).trans ((ri_ne wh192 (.inr (by omega))).trans ((ri_ne wh188 (.inr (by omega))).trans ((ri_ne wh184 (.inr (by omega))).trans (ri_self wh180)))))).trans ((show x179.toInt = 1000 from by omega).trans (show zgB a hh w 11 = 1000 from zgB_l (by decide)).symm) | 12, _ => (((ri_frq Ch195 (k := 119) (d := 58) rfl rfl (by decide) (by decide +kernel)).trans ((ri_ne wh192 (.inr (by omega))).trans ((ri_ne wh188 (.inr (by omega))).trans (ri_self wh184))))).trans ((show x183.toInt = 0 from by omega).trans (show zgB a hh w 12 = 0 from zgB_l (by decide)).symm) | 13, _ => (((ri_frq Ch195 (k := 119) (d := 58) rfl rfl (by decide) (by decide +kernel)).trans ((ri_ne wh192 (.inr (by omega))).trans (ri_self wh188)))).trans ((show x187.toInt = 3000 from by omega).trans (show zgB a hh w 13 = 3000 from zgB_l (by decide)).symm) | j + 14, hj => absurd hj (by omega), fun j hj => (z0h195 j hj).trans (zgB_h (by omega)).symm⟩
            exact gl_lpD (h0 := h195) (t := t) (n := n) (b := b) (u := l.length) (g := x114) (hh := hh) (cn := cn) (v0 := v0) (q0 := q0) (R := zgF t n hh cn 901 0 0 p4 (zgB a hh w)) (fun i hi => by rw [ht i hi, ← hA _ Fh195]) hn9 (fun i hi => by rw [hB _ Fh195]; exact hwr i hi) (by omega) (by omega) (by omega) hb (by omega) hc6 hclh195 (fun x h' b1 b2 b3 b4 b5 => hQ x h' b1 (cw_Fr_tr Fh195 (cw_Fr_mono (by decide +kernel) b2)) (by rw [← hb]; exact b3) (by rw [← hb]; exact b4) (by rw [← hb]; exact zKB_tr kBh195 b5)) 901 0 0 p4 _ h195 L199 x196 x198 (by omega) (by omega) E5 rfl Th195 cw_Fr_refl zKB_0 Zh195 (by omega) (by omega) (by omega) (by omega) (by omega) kDh195 (by omega) (by omega) wx198 gL199_0 gL199_1 gL199_2 gL199_3
          · exfalso; omega
        · exfalso; omega
      · exfalso; omega
    · exfalso; omega
  · exfalso; omega
end TZ
