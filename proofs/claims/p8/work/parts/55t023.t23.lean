/-! ===== a text: the reference ===== -/
/-- the end of text -/
def zTe (S : (Int × Nat) ⊕ (zSg × Int)) (x : Int32) (h : cv_H) : Prop := match S with
  | .inl (f, a) => x.toInt = -1 ∧ ri_at h 111 4 = f ∧ ri_at h 111 5 = a
  | .inr (_, k) => x.toInt = k ∧ ri_at h 111 4 = 0 ∧ ri_at h 111 5 = -1
section TZ
variable {G : Int} {X : cv_X} {Q : cv_O → Prop} {t : Nat → Int}
theorem pl_row {h h' : cv_H} {k : Nat} {x : Int32} (w : cw_Wr h h' 117 (4 + k) (cv_i x)) (hlt : ∀ j, j < k → ri_at h 117 (4 + j) = 0) (hx : x.toInt = 0) : ∀ j, j < k + 1 → ri_at h' 117 (4 + j) = 0 := by
  intro j hj
  by_cases c : j = k
  · rw [c, ri_self w, hx]
  · rw [ri_ne w (.inr (by omega))]; exact hlt j (by omega)
theorem pl_2 {h0 : cv_H} (hQ : ∀ h', cw_T G h' → cw_Fr cw_Ds cw_sh mk_pl h0 h' → zSR h' (0, (fun _ => 0), 0, [], [], []) → Q (none, h')) :
    ∀ (f k : Nat) (h : cv_H) (L : cv_L) (K : Int32), 4 - k = f → k ≤ 4 → K.toInt = k → cw_T G h → cw_Fr cw_Ds cw_sh mk_pl h0 h → ri_at h 111 16 = 0 → ri_at h 111 17 = 0 → ri_at h 111 18 = 0 → ri_at h 111 19 = 0 → ri_at h 111 20 = 0 → ri_at h 111 40 = 0 → (∀ j, j < k → ri_at h 117 (4 + j) = 0) → cv_get L 0 = some (cv_r 111) → cv_get L 1 = some (cv_i K) → cw_X X 171 Q 57 L [] h := by
  intro f
  induction f with
  | zero =>
    intro k h L K hf hk hK hT Fh p16 p17 p18 p19 p20 p40 hlt g0 g1
    refine ex_il oq_X12_plain_57 g1 ?_
    refine ex_ic oq_X12_plain_58 (m := 4) (by decide) (fun x101 hx101 => ?_)
    refine ex_if oq_X12_plain_59 (t := 77) rfl rfl (fun (c102 : x101.toInt ≤ K.toInt) => ?_) (fun (c102 : ¬ (x101.toInt ≤ K.toInt)) => ?_)
    · exact ex_retv oq_X12_plain_77 rfl (hQ h hT Fh ⟨p20, fun i hi => (hlt i.toNat (by omega)).symm, p19, p40, p16, p17, p18, fun q hq => absurd hq (by simp), fun q hq => absurd hq (by simp), fun q hq => absurd hq (by simp)⟩)
    · exfalso; omega
  | succ f ih =>
    intro k h L K hf hk hK hT Fh p16 p17 p18 p19 p20 p40 hlt g0 g1
    refine ex_il oq_X12_plain_57 g1 ?_
    refine ex_ic oq_X12_plain_58 (m := 4) (by decide) (fun x101 hx101 => ?_)
    refine ex_if oq_X12_plain_59 (t := 77) rfl rfl (fun (c102 : x101.toInt ≤ K.toInt) => ?_) (fun (c102 : ¬ (x101.toInt ≤ K.toInt)) => ?_)
    · exfalso; omega
    · refine ex_al oq_X12_plain_62 g0 ?_
      refine ex_gf oq_X12_plain_63 hT (k := 111) (d := 12) rfl rfl (fr_lawTold hT) ?_
      refine ex_ic oq_X12_plain_66 (m := 4) (by decide) (fun x103 hx103 => ?_)
      refine ex_il oq_X12_plain_67 g1 ?_
      refine ex_add oq_X12_plain_68 (by omega) (fun x104 hx104 => ?_)
      refine ex_ic oq_X12_plain_69 (m := 0) (by decide) (fun x105 hx105 => ?_)
      refine ex_bw2 oq_X12_plain_70 hT (k := 117) (d := 56) (j := 4 + k) rfl rfl (by omega) (by omega) ⟨by omega, by omega⟩ (fun h106 Th106 wh106 => ?_)
      have Fh106 : cw_Fr cw_Ds cw_sh mk_pl h0 h106 := cw_Fr_tr Fh (cw_Fr_wrr wh106 (k := 117) (d := 56) rfl rfl (by decide +kernel))
      have eh106_111_16 : ri_at h106 111 16 = (0 : Int) := (ri_ne wh106 (.inl (by decide))).trans p16
      have eh106_111_17 : ri_at h106 111 17 = (0 : Int) := (ri_ne wh106 (.inl (by decide))).trans p17
      have eh106_111_18 : ri_at h106 111 18 = (0 : Int) := (ri_ne wh106 (.inl (by decide))).trans p18
      have eh106_111_19 : ri_at h106 111 19 = (0 : Int) := (ri_ne wh106 (.inl (by decide))).trans p19
      have eh106_111_20 : ri_at h106 111 20 = (0 : Int) := (ri_ne wh106 (.inl (by decide))).trans p20
      have eh106_111_40 : ri_at h106 111 40 = (0 : Int) := (ri_ne wh106 (.inl (by decide))).trans p40
      refine ex_incA oq_X12_plain_71 (v := K) (m := 1) g1 (by decide) (by omega) (fun L108 x107 hx107 gL108_1 kL108 => ?_)
      have gL108_0 : cv_get L108 0 = some (cv_r 111) := kL108 0 _ (by decide) (fun _ => rfl) g0
      refine ex_go oq_X12_plain_74 (t := 57) rfl rfl ?_
      exact ih (k + 1) h106 L108 x107 (by omega) (by omega) (by omega) Th106 Fh106 (by omega) (by omega) (by omega) (by omega) (by omega) (by omega) (pl_row wh106 hlt (by omega)) gL108_0 gL108_1
theorem pl_1 {h0 : cv_H} (hQ : ∀ h', cw_T G h' → cw_Fr cw_Ds cw_sh mk_pl h0 h' → zSR h' (0, (fun _ => 0), 0, [], [], []) → Q (none, h')) :
    ∀ (f k : Nat) (h : cv_H) (L : cv_L) (K : Int32), 12 - k = f → k ≤ 12 → K.toInt = k → cw_T G h → cw_Fr cw_Ds cw_sh mk_pl h0 h → ri_at h 111 16 = 0 → ri_at h 111 17 = 0 → ri_at h 111 18 = 0 → ri_at h 111 19 = 0 → ri_at h 111 20 = 0 → ri_at h 111 40 = 0 → cv_get L 0 = some (cv_r 111) → cv_get L 1 = some (cv_i K) → cw_X X 171 Q 32 L [] h := by
  intro f
  induction f with
  | zero =>
    intro k h L K hf hk hK hT Fh p16 p17 p18 p19 p20 p40 g0 g1
    refine ex_il oq_X12_plain_32 g1 ?_
    refine ex_bi oq_X12_plain_33 (m := 12) (by decide) (fun x101 hx101 => ?_)
    refine ex_if oq_X12_plain_35 (t := 55) rfl rfl (fun (c102 : x101.toInt ≤ K.toInt) => ?_) (fun (c102 : ¬ (x101.toInt ≤ K.toInt)) => ?_)
    · refine ex_ic oq_X12_plain_55 (m := 0) (by decide) (fun x103 hx103 => ?_)
      refine ex_isA oq_X12_plain_56 (fun L104 gL104_1 kL104 => ?_)
      have gL104_0 : cv_get L104 0 = some (cv_r 111) := kL104 0 _ (by decide) (fun _ => rfl) g0
      exact pl_2 hQ 4 0 h L104 x103 rfl (by omega) (by omega) hT Fh p16 p17 p18 p19 p20 p40 (fun j hj => absurd hj (by omega)) gL104_0 gL104_1
    · exfalso; omega
  | succ f ih =>
    intro k h L K hf hk hK hT Fh p16 p17 p18 p19 p20 p40 g0 g1
    refine ex_il oq_X12_plain_32 g1 ?_
    refine ex_bi oq_X12_plain_33 (m := 12) (by decide) (fun x101 hx101 => ?_)
    refine ex_if oq_X12_plain_35 (t := 55) rfl rfl (fun (c102 : x101.toInt ≤ K.toInt) => ?_) (fun (c102 : ¬ (x101.toInt ≤ K.toInt)) => ?_)
    · exfalso; omega
    · refine ex_al oq_X12_plain_38 g0 ?_
      refine ex_gf oq_X12_plain_39 hT (k := 111) (d := 12) rfl rfl (fr_ground hT) ?_
      refine ex_bi oq_X12_plain_42 (m := 12) (by decide) (fun x103 hx103 => ?_)
      refine ex_il oq_X12_plain_44 g1 ?_
      refine ex_add oq_X12_plain_45 (by omega) (fun x104 hx104 => ?_)
      refine ex_bi oq_X12_plain_46 (m := 50) (by decide) (fun x105 hx105 => ?_)
      refine ex_iw1 oq_X12_plain_48 hT (k := 114) (d := 53) (j := 12 + k) rfl rfl (by omega) (by omega) ⟨(cw_i32 _).1, (cw_i32 _).2⟩ (fun h106 Th106 wh106 => ?_)
      have Fh106 : cw_Fr cw_Ds cw_sh mk_pl h0 h106 := cw_Fr_tr Fh (cw_Fr_wrr wh106 (k := 114) (d := 53) rfl rfl (by decide +kernel))
      have eh106_111_16 : ri_at h106 111 16 = (0 : Int) := (ri_ne wh106 (.inl (by decide))).trans p16
      have eh106_111_17 : ri_at h106 111 17 = (0 : Int) := (ri_ne wh106 (.inl (by decide))).trans p17
      have eh106_111_18 : ri_at h106 111 18 = (0 : Int) := (ri_ne wh106 (.inl (by decide))).trans p18
      have eh106_111_19 : ri_at h106 111 19 = (0 : Int) := (ri_ne wh106 (.inl (by decide))).trans p19
      have eh106_111_20 : ri_at h106 111 20 = (0 : Int) := (ri_ne wh106 (.inl (by decide))).trans p20
      have eh106_111_40 : ri_at h106 111 40 = (0 : Int) := (ri_ne wh106 (.inl (by decide))).trans p40
      refine ex_incA oq_X12_plain_49 (v := K) (m := 1) g1 (by decide) (by omega) (fun L108 x107 hx107 gL108_1 kL108 => ?_)
      have gL108_0 : cv_get L108 0 = some (cv_r 111) := kL108 0 _ (by decide) (fun _ => rfl) g0
      refine ex_go oq_X12_plain_52 (t := 32) rfl rfl ?_
      exact ih (k + 1) h106 L108 x107 (by omega) (by omega) (by omega) Th106 Fh106 (by omega) (by omega) (by omega) (by omega) (by omega) (by omega) gL108_0 gL108_1
theorem rt_plain {h0 : cv_H} (hT : cw_T G h0) (hQ : ∀ h', cw_T G h' → cw_Fr cw_Ds cw_sh mk_pl h0 h' → zSR h' (0, (fun _ => 0), 0, [], [], []) → Q (none, h')) : cw_X X 171 Q 0 (cv_ent 0 [cv_r 111]) [] h0 := by
  have Fh0 : cw_Fr cw_Ds cw_sh mk_pl h0 h0 := cw_Fr_refl
  refine ex_al oq_X12_plain_0 rfl ?_
  refine ex_ic oq_X12_plain_1 (m := 0) (by decide) (fun x101 hx101 => ?_)
  refine ex_pfi oq_X12_plain_2 hT (k := 111) (d := 12) rfl rfl rfl (by omega) (by omega) (fun h102 Th102 wh102 => ?_)
  have Fh102 : cw_Fr cw_Ds cw_sh mk_pl h0 h102 := cw_Fr_tr Fh0 (cw_Fr_wrf wh102 (k := 111) (d := 12) rfl rfl (by decide +kernel))
  have eh102_111_16 : ri_at h102 111 16 = x101.toInt := ri_self wh102
  have eh102_111_17 : ri_at h102 111 17 = ri_at h0 111 17 := ri_ne wh102 (by decide)
  have eh102_111_18 : ri_at h102 111 18 = ri_at h0 111 18 := ri_ne wh102 (by decide)
  have eh102_111_19 : ri_at h102 111 19 = ri_at h0 111 19 := ri_ne wh102 (by decide)
  have eh102_111_20 : ri_at h102 111 20 = ri_at h0 111 20 := ri_ne wh102 (by decide)
  have eh102_111_40 : ri_at h102 111 40 = ri_at h0 111 40 := ri_ne wh102 (by decide)
  refine ex_al oq_X12_plain_5 rfl ?_
  refine ex_ic oq_X12_plain_6 (m := 0) (by decide) (fun x103 hx103 => ?_)
  refine ex_pfi oq_X12_plain_7 Th102 (k := 111) (d := 12) rfl rfl rfl (by omega) (by omega) (fun h104 Th104 wh104 => ?_)
  have Fh104 : cw_Fr cw_Ds cw_sh mk_pl h0 h104 := cw_Fr_tr Fh102 (cw_Fr_wrf wh104 (k := 111) (d := 12) rfl rfl (by decide +kernel))
  have eh104_111_16 : ri_at h104 111 16 = x101.toInt := (ri_ne wh104 (by decide)).trans eh102_111_16
  clear eh102_111_16
  have eh104_111_17 : ri_at h104 111 17 = x103.toInt := ri_self wh104
  have eh104_111_18 : ri_at h104 111 18 = ri_at h0 111 18 := (ri_ne wh104 (by decide)).trans eh102_111_18
  clear eh102_111_18
  have eh104_111_19 : ri_at h104 111 19 = ri_at h0 111 19 := (ri_ne wh104 (by decide)).trans eh102_111_19
  clear eh102_111_19
  have eh104_111_20 : ri_at h104 111 20 = ri_at h0 111 20 := (ri_ne wh104 (by decide)).trans eh102_111_20
  clear eh102_111_20
  have eh104_111_40 : ri_at h104 111 40 = ri_at h0 111 40 := (ri_ne wh104 (by decide)).trans eh102_111_40
  clear eh102_111_40
  refine ex_al oq_X12_plain_10 rfl ?_
  refine ex_ic oq_X12_plain_11 (m := 0) (by decide) (fun x105 hx105 => ?_)
  refine ex_pfi oq_X12_plain_12 Th104 (k := 111) (d := 12) rfl rfl rfl (by omega) (by omega) (fun h106 Th106 wh106 => ?_)
  have Fh106 : cw_Fr cw_Ds cw_sh mk_pl h0 h106 := cw_Fr_tr Fh104 (cw_Fr_wrf wh106 (k := 111) (d := 12) rfl rfl (by decide +kernel))
  have eh106_111_16 : ri_at h106 111 16 = x101.toInt := (ri_ne wh106 (by decide)).trans eh104_111_16
  clear eh104_111_16
  have eh106_111_17 : ri_at h106 111 17 = x103.toInt := (ri_ne wh106 (by decide)).trans eh104_111_17
  clear eh104_111_17
  have eh106_111_18 : ri_at h106 111 18 = x105.toInt := ri_self wh106
  have eh106_111_19 : ri_at h106 111 19 = ri_at h0 111 19 := (ri_ne wh106 (by decide)).trans eh104_111_19
  clear eh104_111_19
  have eh106_111_20 : ri_at h106 111 20 = ri_at h0 111 20 := (ri_ne wh106 (by decide)).trans eh104_111_20
  clear eh104_111_20
  have eh106_111_40 : ri_at h106 111 40 = ri_at h0 111 40 := (ri_ne wh106 (by decide)).trans eh104_111_40
  clear eh104_111_40
  refine ex_al oq_X12_plain_15 rfl ?_
  refine ex_ic oq_X12_plain_16 (m := 0) (by decide) (fun x107 hx107 => ?_)
  refine ex_pfi oq_X12_plain_17 Th106 (k := 111) (d := 12) rfl rfl rfl (by omega) (by omega) (fun h108 Th108 wh108 => ?_)
  have Fh108 : cw_Fr cw_Ds cw_sh mk_pl h0 h108 := cw_Fr_tr Fh106 (cw_Fr_wrf wh108 (k := 111) (d := 12) rfl rfl (by decide +kernel))
  have eh108_111_16 : ri_at h108 111 16 = x101.toInt := (ri_ne wh108 (by decide)).trans eh106_111_16
  clear eh106_111_16
  have eh108_111_17 : ri_at h108 111 17 = x103.toInt := (ri_ne wh108 (by decide)).trans eh106_111_17
  clear eh106_111_17
  have eh108_111_18 : ri_at h108 111 18 = x105.toInt := (ri_ne wh108 (by decide)).trans eh106_111_18
  clear eh106_111_18
  have eh108_111_19 : ri_at h108 111 19 = x107.toInt := ri_self wh108
  have eh108_111_20 : ri_at h108 111 20 = ri_at h0 111 20 := (ri_ne wh108 (by decide)).trans eh106_111_20
  clear eh106_111_20
  have eh108_111_40 : ri_at h108 111 40 = ri_at h0 111 40 := (ri_ne wh108 (by decide)).trans eh106_111_40
  clear eh106_111_40
  refine ex_al oq_X12_plain_20 rfl ?_
  refine ex_ic oq_X12_plain_21 (m := 0) (by decide) (fun x109 hx109 => ?_)
  refine ex_pfi oq_X12_plain_22 Th108 (k := 111) (d := 12) rfl rfl rfl (by omega) (by omega) (fun h110 Th110 wh110 => ?_)
  have Fh110 : cw_Fr cw_Ds cw_sh mk_pl h0 h110 := cw_Fr_tr Fh108 (cw_Fr_wrf wh110 (k := 111) (d := 12) rfl rfl (by decide +kernel))
  have eh110_111_16 : ri_at h110 111 16 = x101.toInt := (ri_ne wh110 (by decide)).trans eh108_111_16
  clear eh108_111_16
  have eh110_111_17 : ri_at h110 111 17 = x103.toInt := (ri_ne wh110 (by decide)).trans eh108_111_17
  clear eh108_111_17
  have eh110_111_18 : ri_at h110 111 18 = x105.toInt := (ri_ne wh110 (by decide)).trans eh108_111_18
  clear eh108_111_18
  have eh110_111_19 : ri_at h110 111 19 = x107.toInt := (ri_ne wh110 (by decide)).trans eh108_111_19
  clear eh108_111_19
  have eh110_111_20 : ri_at h110 111 20 = ri_at h0 111 20 := (ri_ne wh110 (by decide)).trans eh108_111_20
  clear eh108_111_20
  have eh110_111_40 : ri_at h110 111 40 = x109.toInt := ri_self wh110
  refine ex_al oq_X12_plain_25 rfl ?_
  refine ex_ic oq_X12_plain_26 (m := 0) (by decide) (fun x111 hx111 => ?_)
  refine ex_pfb oq_X12_plain_27 Th110 (k := 111) (d := 12) rfl rfl rfl (by omega) (by omega) (fun h112 Th112 wh112 => ?_)
  have Fh112 : cw_Fr cw_Ds cw_sh mk_pl h0 h112 := cw_Fr_tr Fh110 (cw_Fr_wrf wh112 (k := 111) (d := 12) rfl rfl (by decide +kernel))
  have eh112_111_16 : ri_at h112 111 16 = x101.toInt := (ri_ne wh112 (by decide)).trans eh110_111_16
  clear eh110_111_16
  have eh112_111_17 : ri_at h112 111 17 = x103.toInt := (ri_ne wh112 (by decide)).trans eh110_111_17
  clear eh110_111_17
  have eh112_111_18 : ri_at h112 111 18 = x105.toInt := (ri_ne wh112 (by decide)).trans eh110_111_18
  clear eh110_111_18
  have eh112_111_19 : ri_at h112 111 19 = x107.toInt := (ri_ne wh112 (by decide)).trans eh110_111_19
  clear eh110_111_19
  have eh112_111_20 : ri_at h112 111 20 = x111.toInt := ri_self wh112
  have eh112_111_40 : ri_at h112 111 40 = x109.toInt := (ri_ne wh112 (by decide)).trans eh110_111_40
  clear eh110_111_40
  refine ex_ic oq_X12_plain_30 (m := 0) (by decide) (fun x113 hx113 => ?_)
  refine ex_isA oq_X12_plain_31 (fun L114 gL114_1 kL114 => ?_)
  have gL114_0 : cv_get L114 0 = some (cv_r 111) := kL114 0 _ (by decide) (fun _ => rfl) rfl
  exact pl_1 hQ 12 0 h112 L114 x113 rfl (by omega) (by omega) Th112 Fh112 (by omega) (by omega) (by omega) (by omega) (by omega) (by omega) gL114_0 gL114_1
theorem rt_tx {h0 : cv_H} {n : Nat} (hX : cw_Xok X) (ht : ∀ i, i < n → t i = ri_at h0 112 i) (hn9 : n ≤ 900) (hwr : ∀ i, i < 177 → ri_at h0 113 i = pp_words.getD i 0) (hw5 : ∀ p, p ≤ n → zk t n p = 5 → 0 ≤ zw t n p ∧ zw t n p ≤ 5) {S : (Int × Nat) ⊕ (zSg × Int)} (hQ : ∀ (x : Int32) (G' : Int) h', cw_T G' h' → cw_PP G' h' → cw_Fr cw_Ds cw_sh mk_tl h0 h' → zTe S x h' → Q (some (cv_i x), h')) :
    ∀ (f : Nat) (s : zSg) (p : Nat) (k : Int32) (h : cv_H), n - p < f → p ≤ n → ztx t n f k.toInt s p = S → cw_T G h → cw_PP G h → rd_I h → zR t n p h → zSR h s → ri_at h 111 4 = 0 → ri_at h 111 5 = -1 → cw_Fr cw_Ds cw_sh mk_tl h0 h → ∀ L : cv_L, cv_get L 0 = some (cv_r 111) → cv_get L 2 = some (cv_i k) → 0 ≤ k.toInt → k.toInt + f ≤ 2000 → cw_X X 188 Q 55 L [] h := by
  intro f
  induction f with
  | zero => intro s p k h hf; omega
  | succ f ih =>
    intro s p k h hf hpn hst Th Ph hI hz hs hf4 hf5 Fh L q0 q2 k0 k1
    obtain ⟨z1, z2, z3, z4, -⟩ := id hz
    refine ex_al oq_X12_text_55 q0 ?_
    obtain ⟨x1, ax1, rx1, lx1, ux1⟩ := fi_kind Th
    refine ex_gf oq_X12_text_56 Th (k := 111) (d := 12) rfl rfl ax1 ?_
    refine ex_if0 oq_X12_text_59 (t := 77) rfl rfl (fun (c2 : x1.toInt = 0) => ?_) (fun (c2 : ¬ (x1.toInt = 0)) => ?_)
    · refine ex_al oq_X12_text_77 q0 ?_
      refine ex_cv oq_X12_text_78 (by decide) Th (k := 111) (d := 12) (as := []) (stk := []) rfl rfl rfl rfl rfl rfl ⟨rfl, rfl⟩ (R := fun o => ∃ (G' : Int) (hb : cv_H), o = (none, hb) ∧ cw_T G' hb ∧ cw_PP G' hb ∧ cw_Fr cw_Ds cw_sh mk_kt h hb) (sp_keepText (cw_Xok_no2 hX) Th Ph hI (fun G' hb a1 a2 a3 => ⟨G', hb, rfl, a1, a2, a3⟩)) (fun o ho => ?_)
      obtain ⟨G2, h3, rfl, Th3, Ph3, Ch3⟩ := ho
      show cw_X _ _ _ _ _ [] h3
      have Fh3 : cw_Fr cw_Ds cw_sh mk_tl h0 h3 := cw_Fr_tr Fh (cw_Fr_mono (by decide +kernel) Ch3)
      refine ex_il oq_X12_text_81 q2 ?_
      refine ex_reti oq_X12_text_82 rfl (hQ k _ h3 Th3 Ph3 Fh3 ?_)
      rw [← hst, ztx_s, if_pos (by omega)]
      exact ⟨rfl, (ri_frf Ch3 (k := 111) (i := 4) rfl rfl (by decide +kernel)).trans hf4, (ri_frf Ch3 (k := 111) (i := 5) rfl rfl (by decide +kernel)).trans hf5⟩
    · refine ex_al oq_X12_text_62 q0 ?_
      have pq : cw_PQ G (ri_at h 111 7) (ri_at h 111 8) (n : Int) h := ⟨Ph, Int.le_refl _, fun _ => .inl rfl, z1⟩
      refine ex_cv oq_X12_text_63 (by decide) Th (k := 111) (d := 12) (as := []) (stk := []) rfl rfl rfl rfl rfl rfl ⟨rfl, rfl⟩ (R := fun o => (∃ (x : Int32) (hb : cv_H), o = (some (cv_i x), hb) ∧ cw_T G hb ∧ cw_PQ G (ri_at h 111 7) (ri_at h 111 8) n hb ∧ cw_Fr cw_Ds cw_sh mk_ln h hb ∧ (x.toInt = 0 ∨ x.toInt = 1 ∧ rd_I hb ∧ (ri_at hb 111 8 = 0 ∨ ri_at h 111 7 < ri_at hb 111 7))) ∧ ∃ (x : Int32) (hb : cv_H), o = (some (cv_i x), hb) ∧ zRe t n h hb x (zln t n s p) (fun s' => zSR hb s')) (cw_X_and (sp_lineRead (cw_Xok_no2 hX) Th pq hI (fun x h a0 a1 a2 a3 => ⟨x, h, rfl, a0, a1, a2, a3⟩)) (rt_lineRead (fun i hi => by rw [ht i hi]; exact (ri_frr Fh (k := 112) (d := 51) rfl rfl (by decide +kernel)).symm) hn9 Th (fun i hi => by rw [← hwr i hi]; exact ri_frr Fh (k := 113) (d := 52) rfl rfl (by decide +kernel)) hpn hz hw5 hs (fun x hb b1 b2 b3 => ⟨x, hb, rfl, b3⟩))) (fun o ho => ?_)
      obtain ⟨⟨x5, h4, rfl, Th4, Zh4, Ch4, dx5⟩, x6, h6, he, d5⟩ := ho
      cases he
      show cw_X _ _ _ _ _ [cv_i x5] h4
      have Fh4 : cw_Fr cw_Ds cw_sh mk_tl h0 h4 := cw_Fr_tr Fh (cw_Fr_mono (by decide +kernel) Ch4)
      have Ph4 := Zh4.1
      refine ex_if0 oq_X12_text_66 (t := 71) rfl rfl (fun (c6 : ¬ x5.toInt = 0) => ?_) (fun (c6 : ¬ (¬ x5.toInt = 0)) => ?_)
      · obtain ⟨s', q, e1, e2, e3, e4, e5, e6, e7⟩ := zRe_yes d5 c6
        have hge := zln_ge hpn e1
        refine ex_incA oq_X12_text_71 (v := k) (m := 1) q2 (by decide) (by omega) (fun L8 x7 hx7 gL8_2 kL8 => ?_)
        have gL8_0 : cv_get L8 0 = some (cv_r 111) := kL8 0 _ (by decide) (fun q => absurd q (by decide)) q0
        refine ex_go oq_X12_text_74 (t := 55) rfl rfl ?_
        exact ih s' q x7 h4 (by omega) e2 (by rw [← hst, ztx_s, if_neg (by omega), zb2_r e1, hx7]) Th4 Ph4 (dx5.resolve_left (by omega)).2.1 e4 e7 (by omega) (by omega) Fh4 L8 gL8_0 gL8_2 (by omega) (by omega)
      · obtain ⟨fc, fa, e1, e2, e3, e4, e5⟩ := zRe_no d5 (by omega)
        refine ex_ic oq_X12_text_69 (m := (-1)) (by decide) (fun x9 hx9 => ?_)
        refine ex_reti oq_X12_text_70 rfl (hQ x9 _ h4 Th4 Ph4 Fh4 ?_)
        rw [← hst, ztx_s, if_neg (by omega), zb2_l e1]
        exact ⟨hx9, e3, e4⟩
set_option maxHeartbeats 4000000 in
theorem rt_text {h0 : cv_H} (hX : cw_Xok X) (hT : cw_T G h0) (hP : cw_PP G h0) (n : Int32) (ht : ∀ i : Nat, (i : Int) < ri_at h0 111 1 → t i = ri_at h0 112 i) (hwr : ∀ i, i < 177 → ri_at h0 113 i = pp_words.getD i 0) (hw5 : ∀ p, p ≤ n.toInt.toNat → zk t n.toInt.toNat p = 5 → 0 ≤ zw t n.toInt.toNat p ∧ zw t n.toInt.toNat p ≤ 5) (hQ : ∀ (x : Int32) (G' : Int) h', cw_T G' h' → cw_PP G' h' → cw_Fr cw_Ds cw_sh mk_tx h0 h' → ((n.toInt < 0 ∨ ri_at h0 111 1 < n.toInt) ∧ ri_at h' 111 1 = ri_at h0 111 1 ∧ x.toInt = -2 ∧ ri_at h' 111 4 = ri_at h0 111 4 ∧ ri_at h' 111 5 = ri_at h0 111 5 ∨ 0 ≤ n.toInt ∧ n.toInt ≤ ri_at h0 111 1 ∧ ri_at h' 111 1 = 0 ∧ zTe (ztx t n.toInt.toNat 901 0 (0, (fun _ => 0), 0, [], [], []) 0) x h') → Q (some (cv_i x), h')) : cw_X X 188 Q 0 (cv_ent 0 [cv_r 111, cv_i n]) [] h0 := by
  have Fh0 : cw_Fr cw_Ds cw_sh mk_w0 h0 h0 := cw_Fr_refl
  refine ex_al oq_X12_text_0 rfl ?_
  refine ex_ic oq_X12_text_1 (m := 0) (by decide) (fun x201 hx201 => ?_)
  refine ex_pfi oq_X12_text_2 hT (k := 111) (d := 12) rfl rfl rfl (cw_i32 _).1 (cw_i32 _).2 (fun h202 Th202 wh202 => ?_)
  have Fh202 : cw_Fr cw_Ds cw_sh mk_w0 h0 h202 := cw_Fr_tr Fh0 (cw_Fr_wrf wh202 (k := 111) (d := 12) rfl rfl (by decide +kernel))
  have eh202_1 : ri_at h202 111 1 = ri_at h0 111 1 := ri_ne wh202 (by decide)
  have eh202_4 : ri_at h202 111 4 = ri_at h0 111 4 := ri_ne wh202 (by decide)
  have eh202_5 : ri_at h202 111 5 = ri_at h0 111 5 := ri_ne wh202 (by decide)
  have eh202_6 : ri_at h202 111 6 = ri_at h0 111 6 := ri_ne wh202 (by decide)
  have eh202_7 : ri_at h202 111 7 = ri_at h0 111 7 := ri_ne wh202 (by decide)
  have eh202_8 : ri_at h202 111 8 = ri_at h0 111 8 := ri_ne wh202 (by decide)
  have eh202_9 : ri_at h202 111 9 = ri_at h0 111 9 := ri_ne wh202 (by decide)
  refine ex_il oq_X12_text_5 rfl ?_
  refine ex_if0 oq_X12_text_6 (t := 17) rfl rfl (fun (c203 : n.toInt < 0) => ?_) (fun (c203 : ¬ (n.toInt < 0)) => ?_)
  · refine ex_bi oq_X12_text_17 (m := (-2)) (by decide) (fun x204 hx204 => ?_)
    exact ex_reti oq_X12_text_19 rfl (hQ x204 G h202 Th202 (pp_fr1 (by decide +kernel) hP Fh202 ⟨by have := hP.2.1.1; omega, by intro q; have := hP.2.1.2.1; omega, by intro q; have := hP.2.1.2.2; omega⟩) (cw_Fr_mono (by decide +kernel) Fh202) (.inl ⟨by omega, by omega, by omega, by omega, by omega⟩))
  · refine ex_il oq_X12_text_9 rfl ?_
    refine ex_al oq_X12_text_10 rfl ?_
    obtain ⟨x205, ax205, rx205, lx205, ux205⟩ := fi_tapeSize Th202
    refine ex_gf oq_X12_text_11 Th202 (k := 111) (d := 12) rfl rfl ax205 ?_
    refine ex_if oq_X12_text_14 (t := 20) rfl rfl (fun (c206 : n.toInt ≤ x205.toInt) => ?_) (fun (c206 : ¬ (n.toInt ≤ x205.toInt)) => ?_)
    · refine ex_al oq_X12_text_20 rfl ?_
      refine ex_il oq_X12_text_21 rfl ?_
      refine ex_pfi oq_X12_text_22 Th202 (k := 111) (d := 12) rfl rfl rfl (by omega) (by omega) (fun h207 Th207 wh207 => ?_)
      have Fh207 : cw_Fr cw_Ds cw_sh mk_w0 h0 h207 := cw_Fr_tr Fh202 (cw_Fr_wrf wh207 (k := 111) (d := 12) rfl rfl (by decide +kernel))
      have eh207_1 : ri_at h207 111 1 = ri_at h202 111 1 := ri_ne wh207 (by decide)
      have eh207_4 : ri_at h207 111 4 = ri_at h202 111 4 := ri_ne wh207 (by decide)
      have eh207_5 : ri_at h207 111 5 = ri_at h202 111 5 := ri_ne wh207 (by decide)
      have eh207_6 : ri_at h207 111 6 = n.toInt := ri_self wh207
      have eh207_7 : ri_at h207 111 7 = ri_at h202 111 7 := ri_ne wh207 (by decide)
      have eh207_8 : ri_at h207 111 8 = ri_at h202 111 8 := ri_ne wh207 (by decide)
      have eh207_9 : ri_at h207 111 9 = ri_at h202 111 9 := ri_ne wh207 (by decide)
      refine ex_al oq_X12_text_25 rfl ?_
      refine ex_ic oq_X12_text_26 (m := 0) (by decide) (fun x208 hx208 => ?_)
      refine ex_pfi oq_X12_text_27 Th207 (k := 111) (d := 12) rfl rfl rfl (by omega) (by omega) (fun h209 Th209 wh209 => ?_)
      have Fh209 : cw_Fr cw_Ds cw_sh mk_w0 h0 h209 := cw_Fr_tr Fh207 (cw_Fr_wrf wh209 (k := 111) (d := 12) rfl rfl (by decide +kernel))
      have eh209_1 : ri_at h209 111 1 = x208.toInt := ri_self wh209
      have eh209_4 : ri_at h209 111 4 = ri_at h207 111 4 := ri_ne wh209 (by decide)
      have eh209_5 : ri_at h209 111 5 = ri_at h207 111 5 := ri_ne wh209 (by decide)
      have eh209_6 : ri_at h209 111 6 = ri_at h207 111 6 := ri_ne wh209 (by decide)
      have eh209_7 : ri_at h209 111 7 = ri_at h207 111 7 := ri_ne wh209 (by decide)
      have eh209_8 : ri_at h209 111 8 = ri_at h207 111 8 := ri_ne wh209 (by decide)
      have eh209_9 : ri_at h209 111 9 = ri_at h207 111 9 := ri_ne wh209 (by decide)
      refine ex_al oq_X12_text_30 rfl ?_
      refine ex_ic oq_X12_text_31 (m := 0) (by decide) (fun x210 hx210 => ?_)
      refine ex_pfi oq_X12_text_32 Th209 (k := 111) (d := 12) rfl rfl rfl (cw_i32 _).1 (cw_i32 _).2 (fun h211 Th211 wh211 => ?_)
      have Fh211 : cw_Fr cw_Ds cw_sh mk_w0 h0 h211 := cw_Fr_tr Fh209 (cw_Fr_wrf wh211 (k := 111) (d := 12) rfl rfl (by decide +kernel))
      have eh211_1 : ri_at h211 111 1 = ri_at h209 111 1 := ri_ne wh211 (by decide)
      have eh211_4 : ri_at h211 111 4 = x210.toInt := ri_self wh211
      have eh211_5 : ri_at h211 111 5 = ri_at h209 111 5 := ri_ne wh211 (by decide)
      have eh211_6 : ri_at h211 111 6 = ri_at h209 111 6 := ri_ne wh211 (by decide)
      have eh211_7 : ri_at h211 111 7 = ri_at h209 111 7 := ri_ne wh211 (by decide)
      have eh211_8 : ri_at h211 111 8 = ri_at h209 111 8 := ri_ne wh211 (by decide)
      have eh211_9 : ri_at h211 111 9 = ri_at h209 111 9 := ri_ne wh211 (by decide)
      refine ex_al oq_X12_text_35 rfl ?_
      refine ex_ic oq_X12_text_36 (m := (-1)) (by decide) (fun x212 hx212 => ?_)
      refine ex_pfi oq_X12_text_37 Th211 (k := 111) (d := 12) rfl rfl rfl (cw_i32 _).1 (cw_i32 _).2 (fun h213 Th213 wh213 => ?_)
      have Fh213 : cw_Fr cw_Ds cw_sh mk_w0 h0 h213 := cw_Fr_tr Fh211 (cw_Fr_wrf wh213 (k := 111) (d := 12) rfl rfl (by decide +kernel))
      have eh213_1 : ri_at h213 111 1 = ri_at h211 111 1 := ri_ne wh213 (by decide)
      have eh213_4 : ri_at h213 111 4 = ri_at h211 111 4 := ri_ne wh213 (by decide)
      have eh213_5 : ri_at h213 111 5 = x212.toInt := ri_self wh213
      have eh213_6 : ri_at h213 111 6 = ri_at h211 111 6 := ri_ne wh213 (by decide)
      have eh213_7 : ri_at h213 111 7 = ri_at h211 111 7 := ri_ne wh213 (by decide)
      have eh213_8 : ri_at h213 111 8 = ri_at h211 111 8 := ri_ne wh213 (by decide)
      have eh213_9 : ri_at h213 111 9 = ri_at h211 111 9 := ri_ne wh213 (by decide)
      refine ex_al oq_X12_text_40 rfl ?_
      refine ex_ic oq_X12_text_41 (m := 0) (by decide) (fun x214 hx214 => ?_)
      refine ex_pfi oq_X12_text_42 Th213 (k := 111) (d := 12) rfl rfl rfl (by omega) (by omega) (fun h215 Th215 wh215 => ?_)
      have Fh215 : cw_Fr cw_Ds cw_sh mk_w0 h0 h215 := cw_Fr_tr Fh213 (cw_Fr_wrf wh215 (k := 111) (d := 12) rfl rfl (by decide +kernel))
      have eh215_1 : ri_at h215 111 1 = ri_at h213 111 1 := ri_ne wh215 (by decide)
      have eh215_4 : ri_at h215 111 4 = ri_at h213 111 4 := ri_ne wh215 (by decide)
      have eh215_5 : ri_at h215 111 5 = ri_at h213 111 5 := ri_ne wh215 (by decide)
      have eh215_6 : ri_at h215 111 6 = ri_at h213 111 6 := ri_ne wh215 (by decide)
      have eh215_7 : ri_at h215 111 7 = x214.toInt := ri_self wh215
      have eh215_8 : ri_at h215 111 8 = ri_at h213 111 8 := ri_ne wh215 (by decide)
      have eh215_9 : ri_at h215 111 9 = ri_at h213 111 9 := ri_ne wh215 (by decide)
      refine ex_al oq_X12_text_45 rfl ?_
      have Ph215 : cw_PP G h215 := pp_fr1 (by decide +kernel) hP Fh215 ⟨by omega, by intro q; have := hP.2.1.2.1; omega, by intro q; have := hP.2.1.2.2; omega⟩
      have pq : cw_PQ G 0 (ri_at h215 111 8) n.toInt h215 := ⟨Ph215, by omega, fun _ => .inl rfl, by omega⟩
      have Fw := cw_Fr_mono (m' := mk_tx) (by decide +kernel) Fh215
      refine ex_cv oq_X12_text_46 (by decide) Th215 (k := 111) (d := 12) (as := []) (stk := []) rfl rfl rfl rfl rfl rfl ⟨rfl, rfl⟩ (R := fun o => (∃ hb : cv_H, o = (none, hb) ∧ cw_T G hb ∧ cw_PQ G 0 (ri_at h215 111 8) n.toInt hb ∧ cw_Fr cw_Ds cw_sh mk_pl h215 hb ∧ rd_I hb) ∧ ∃ hb : cv_H, o = (none, hb) ∧ zSR hb (0, (fun _ => 0), 0, [], [], [])) (cw_X_and (sp_plain Th215 pq (fun h a0 a1 a2 a3 => ⟨h, rfl, a0, a1, a2, a3⟩)) (rt_plain Th215 (fun hb b1 b2 b3 => ⟨hb, rfl, b3⟩))) (fun o ho => ?_)
      obtain ⟨⟨h216, rfl, Th216, Zh216, Ch216, Ih216⟩, hx, he, Sh216⟩ := ho
      cases he
      show cw_X _ _ _ _ _ [] h216
      have Ah216 : cw_Fr cw_Ds cw_sh mk_tl h215 h216 := cw_Fr_mono (by decide +kernel) Ch216
      refine ex_al oq_X12_text_49 rfl ?_
      refine ex_cv oq_X12_text_50 (by decide) Th216 (k := 111) (d := 12) (as := []) (stk := []) rfl rfl rfl rfl rfl rfl ⟨rfl, rfl⟩ (R := fun o => (∃ hb : cv_H, o = (none, hb) ∧ cw_T G hb ∧ cw_PQ G 0 (ri_at h215 111 8) n.toInt hb ∧ cw_Fr cw_Ds cw_sh kk_X12_token.2.2.2.2.2.1 h216 hb ∧ (ri_at hb 111 8 = 0 ∨ 0 < ri_at hb 111 7)) ∧ ∃ hb : cv_H, o = (none, hb) ∧ zR t n.toInt.toNat 0 hb) (cw_X_and (sp_tokenQ (cw_Xok_no2 hX) Th216 Zh216 (fun h a0 a1 a2 a3 => ⟨h, rfl, a0, a1, a2, a3⟩)) (rt_tok (t := t) (n := n.toInt.toNat) (p := 0) (fun i hi => by rw [ht i (by omega)]; exact ((ri_frr Ah216 (k := 112) (d := 51) rfl rfl (by decide +kernel)).trans (ri_frr Fw (k := 112) (d := 51) rfl rfl (by decide +kernel))).symm) (by omega) (fun i hi => by rw [← hwr i hi]; exact (ri_frr Ah216 (k := 113) (d := 52) rfl rfl (by decide +kernel)).trans (ri_frr Fw (k := 113) (d := 52) rfl rfl (by decide +kernel))) Th216 (by omega) (by rw [ri_frf Ch216 (k := 111) (i := 6) rfl rfl (by decide +kernel)]; omega) (by rw [ri_frf Ch216 (k := 111) (i := 7) rfl rfl (by decide +kernel)]; omega) (fun hb b1 b2 b3 => ⟨hb, rfl, b3⟩))) (fun o ho => ?_)
      obtain ⟨⟨h217, rfl, Th217, Zh217, Ch217, prh217⟩, hx, he, Rh217⟩ := ho
      cases he
      have Sh217 := zSR_fr Ch217 Sh216 (by decide +kernel)
      show cw_X _ _ _ _ _ [] h217
      have Ah217 : cw_Fr cw_Ds cw_sh mk_tl h215 h217 := cw_Fr_tr Ah216 (cw_Fr_mono (by decide +kernel) Ch217)
      have rgh217 : ∀ i, ri_at h217 119 i = ri_at h216 119 i := fun i => ri_frq Ch217 (d := 58) rfl rfl (by decide) (by decide +kernel)
      have rch217 : ∀ i, ri_at h217 124 i = ri_at h216 124 i := fun i => ri_frq Ch217 (d := 63) rfl rfl (by decide) (by decide +kernel)
      have rth217 : ∀ i, ri_at h217 117 i = ri_at h216 117 i := fun i => ri_frr Ch217 (d := 56) rfl rfl (by decide +kernel)
      have rlh217 : ∀ i, ri_at h217 116 i = ri_at h216 116 i := fun i => ri_frr Ch217 (d := 55) rfl rfl (by decide +kernel)
      have Ih217 : rd_I h217 := rd_ext Ih216 (ri_frf Ch217 (d := 12) rfl rfl (by decide +kernel)) (ri_frf Ch217 (d := 12) rfl rfl (by decide +kernel)) (ri_frf Ch217 (d := 12) rfl rfl (by decide +kernel)) (ri_frf Ch217 (d := 12) rfl rfl (by decide +kernel)) rgh217 rch217 rth217 rlh217
      refine ex_ic oq_X12_text_53 (m := 0) (by decide) (fun x218 hx218 => ?_)
      refine ex_isA oq_X12_text_54 (fun L219 gL219_2 kL219 => ?_)
      have gL219_0 : cv_get L219 0 = some (cv_r 111) := kL219 0 _ (by decide) (fun q => absurd q (by decide)) rfl
      have gL219_1 : cv_get L219 1 = some (cv_i n) := kL219 1 _ (by decide) (fun _ => rfl) rfl
      have y7 := Zh217.1.2.1.1
      have y6 := Zh217.2.2.2
      have y0 : 0 ≤ ri_at h217 111 7 := Zh217.2.1
      refine rt_tx (h0 := h215) (t := t) (n := n.toInt.toNat) (S := ztx t n.toInt.toNat 901 0 (0, (fun _ => 0), 0, [], [], []) 0) hX (fun i hi => by rw [ht i (by omega)]; exact (ri_frr Fw (k := 112) (d := 51) rfl rfl (by decide +kernel)).symm) (by omega) (fun i hi => by rw [← hwr i hi]; exact ri_frr Fw (k := 113) (d := 52) rfl rfl (by decide +kernel)) hw5 (fun x G' h' a1 a2 a3 a4 => hQ x G' h' a1 a2 (cw_Fr_tr Fw (cw_Fr_mono (by decide +kernel) a3)) ?_) 901 _ 0 x218 h217 (by omega) (by omega) (by rw [hx218]) Th217 Zh217.1 Ih217 Rh217 Sh217 ?_ ?_ Ah217 L219 gL219_0 gL219_2 (by omega) (by omega)
      · have yt : ri_at h' 111 1 = ri_at h215 111 1 := ri_frf a3 (d := 12) rfl rfl (by decide +kernel)
        exact .inr ⟨by omega, by omega, by omega, a4⟩
      · rw [ri_frf Ch217 (k := 111) (i := 4) rfl rfl (by decide +kernel), ri_frf Ch216 (k := 111) (i := 4) rfl rfl (by decide +kernel)]; omega
      · rw [ri_frf Ch217 (k := 111) (i := 5) rfl rfl (by decide +kernel), ri_frf Ch216 (k := 111) (i := 5) rfl rfl (by decide +kernel)]; omega
    · refine ex_bi oq_X12_text_17 (m := (-2)) (by decide) (fun x220 hx220 => ?_)
      exact ex_reti oq_X12_text_19 rfl (hQ x220 G h202 Th202 (pp_fr1 (by decide +kernel) hP Fh202 ⟨by have := hP.2.1.1; omega, by intro q; have := hP.2.1.2.1; omega, by intro q; have := hP.2.1.2.2; omega⟩) (cw_Fr_mono (by decide +kernel) Fh202) (.inl ⟨by omega, by omega, by omega, by omega, by omega⟩))
end TZ
