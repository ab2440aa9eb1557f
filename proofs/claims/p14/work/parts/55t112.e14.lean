section
/-! ===== weeks, works, undo, the image: both sides ===== -/
theorem zgU_E {a b : Nat → Int} {i : Nat} {v : Int} (h : zEq a b) : zEq (zgU a i v) (zgU b i v) := fun j p q => by
  by_cases c : j = i
  · rw [c, zgU_eq, zgU_eq]
  · rw [zgU_ne c, zgU_ne c]; exact h j p q
theorem gTake_E {a b : Nat → Int} {k n : Int} {w : Nat} (h : zEq a b) : zEq (gTake a k n w) (gTake b k n w) := by
  unfold gTake
  rw [h 10 (by decide) (by decide), h 4 (by decide) (by decide), h 5 (by decide) (by decide), h 8 (by decide) (by decide)]
  by_cases c0 : k = 0
  · rw [if_pos c0, if_pos c0]; exact zgU_E (zgU_E h)
  rw [if_neg c0, if_neg c0]
  by_cases c1 : k = 1
  · rw [if_pos c1, if_pos c1]; exact zgU_E (zgU_E h)
  rw [if_neg c1, if_neg c1]
  by_cases c2 : k = 2
  · rw [if_pos c2, if_pos c2]; exact zgU_E (zgU_E h)
  rw [if_neg c2, if_neg c2]
  by_cases c3 : k = 3
  · rw [if_pos c3, if_pos c3]; exact zgU_E (zgU_E h)
  rw [if_neg c3, if_neg c3]
  by_cases c4 : k = 4
  · rw [if_pos c4, if_pos c4]; exact zgU_E (zgU_E h)
  rw [if_neg c4, if_neg c4]
  by_cases c5 : k = 5
  · rw [if_pos c5, if_pos c5]; exact zgU_E (zgU_E (zgU_E h))
  rw [if_neg c5, if_neg c5]
  exact zgU_E (zgU_E (zgU_E h))
theorem uP_all2 {α β : Type} {P : α → β → Prop} {m : Nat} {f : Nat → α} {g : Nat → β} {x : α} {y : β} (hm : m ≤ 20) (h : ∀ i, i < m → P (f i) (g i)) (hx : P x y) : ∀ i, i < min (m + 1) 20 → P (uP m f x i) (uP m g y i) := by
  intro i hi
  by_cases c : m < 20
  · rw [uP_0 c, uP_0 c]
    by_cases ci : i = m
    · rw [ci, zfU_eq, zfU_eq]; exact hx
    · rw [zfU_ne ci, zfU_ne ci]; exact h i (by omega)
  · rw [uP_1 c, uP_1 c]
    by_cases ci : i = 19
    · rw [ci, zfU_eq, zfU_eq]; exact hx
    · rw [zfU_ne ci, zfU_ne ci]; exact h (i + 1) (by omega)
section JW
variable {X : cv_X} {Gn : Int} {h h1 h2 : cv_H}
theorem zQR_w (a : ∃ z : Int32, cw_Wr h h1 111 2 (cv_i z)) : zQR zsl h h1 := by
  obtain ⟨z, w⟩ := a
  refine ⟨fun k i u => w.2.1 k i (.inl (by omega)), fun k i u => w.2.1 k i (.inl (by omega)), fun i u => w.2.1 111 i (.inr ?_)⟩
  intro e
  subst e
  exact absurd u (by decide)
theorem wk_m (fr : ef_fr ec_X11_weeks_0.2.2.2.2.2 h h1) : (∀ k i, (1 ≤ k ∧ k ≤ 54 ∨ 59 ≤ k ∧ k ≤ 102) → cw_at h1 k i = cw_at h k i) ∧ cw_at h1 0 1 = cw_at h 0 1 := by
  refine ⟨fun k i u => fr k i ?_, fr 0 1 (by decide)⟩
  refine ef_may_no (List.all_eq_true.mpr (fun w hw => ?_))
  have c : ec_X11_weeks_0.2.2.2.2.2.all (fun w => w.1 == 0 || ((Nat.ble 55 w.1 && Nat.ble w.1 58) || Nat.ble 103 w.1)) = true := by decide
  have q := List.all_eq_true.mp c w hw
  simp only [Bool.or_eq_true, Bool.and_eq_true, Nat.ble_eq, beq_iff_eq] at q
  rw [Bool.not_eq_true', beq_eq_false_iff_ne]
  omega
theorem zJ_c7 : zJ 121 221 1 true := by
  intro X Gn h as hX ha hT hP he
  match as, ha with
  | [N], _ =>
  obtain ⟨ta, no, p, q, go, ce, rq⟩ := he
  have hng := (zGo_g go).1
  have ce0 := ce
  have go0 := go
  obtain ⟨⟨f1, f2, -⟩, b, cp, Bf, γc, υc, ιc, a1, a2, a3, a4, a5, a6, a7, a8⟩ := ce
  obtain ⟨⟨dr, lt, wf, kn⟩, W0, gg, gu, gi⟩ := go
  refine zX_efI (K := kk_X11_weeks) (E := ec_X11_weeks_0) (ie := 138) (as := [N]) rfl rfl rfl rfl f1 f2 ?_
  refine ct_weeks hX hT hP N a6 (fun x h1 hT1 hP1 hF1 w1 fp => ⟨x, h1, rfl, hT1, hF1.1 149 rfl, ?_⟩)
  have s1 := lg_nr_e hT hT1 hF1 (by decide +kernel)
  have rq1 : zRQ h1 p q := zRQ_c s1 rq
  have mm := wk_m fp.2.2.2.1
  have n1 : zNo h1 := zNo_e (fun i _ => mm.1 86 i (by omega)) (fun i _ => s1 111 i (by decide) (by decide)) no
  have t1 : zTa h1 := zTa_e (fun k i u => by
    rcases u with ⟨rfl, rfl⟩ | ⟨rfl, rfl⟩ | rfl | rfl | rfl
    · exact mm.2
    · exact s1 111 1 (by decide) (by decide)
    · exact mm.1 1 i (by omega)
    · exact s1 112 i (by decide) (by decide)
    · exact mm.1 52 i (by omega)) ta
  refine zX_poI (K := kk_X12_weeks) (hk_X12_weeks hz_X12_loads hz_X12_goesOn hz_X12_lays_1) (k := 111) (d := 12) (as := [N]) rfl (by decide) rfl rfl hX hT1 hP1 ?_
  refine rl_weeks hT1 (zPD_T dr) rq1.1.1 (fun g hg => ⟨(gg g hg).1, (gg g hg).2.1⟩) rq1.2.1 rq1.2.2.1 W0 (fun y _ h2 hT2 wz ey cy po2 => ?_) (fun m hm hmm y h2 hT2 z7 ey eW sS po2 => ?_)
  · have hF2 : cw_Fr cw_Ds cw_sh kk_X12_weeks.2.2.2.2.2.1 h1 h2 := po2.2.2.1
    have e1 : lg_E h1 := by
      refine ⟨t1, n1, p, q, go0, ?_, rq1⟩
      exact zCE_w ce0 hng fp.2.2.2.1 fp.1 fp.2.1 (W' := q.1) (γs' := q.2.1) (by rcases w1 with ⟨-, -, c⟩ | ⟨c, -⟩; exact c; exact absurd ⟨c.1.1, c.1.2, c.2⟩ cy) (fun _ _ _ _ => rfl)
    exact ⟨y, Gn, h2, rfl, hT2, po2.2.1.2, lg_E_R e1 (zQR_w ⟨_, wz⟩), (hF2.1 149 rfl).trans (hF1.1 149 rfl), fun _ => Int32.toInt_inj.mp (by omega)⟩
  · have hF2 : cw_Fr cw_Ds cw_sh kk_X12_weeks.2.2.2.2.2.1 h1 h2 := po2.2.2.1
    have hN0 : 0 ≤ N.toInt ∧ N.toInt ≤ 520 ∧ q.1 + N.toInt ≤ 2000 := by omega
    have hW1 : ri_at h1 0 8 = q.1 + m := by
      rcases w1 with ⟨c, -⟩ | ⟨-, -, c⟩
      · omega
      · omega
    have z7c : ∀ k i, k < 111 → cw_at h2 k i = cw_at h1 k i := fun k i u => at_h (z7.1 k (by omega) (by omega) (by omega) (by omega) (by omega) (by omega))
    have z7r : ∀ k i, (112 ≤ k ∧ k ≤ 127 ∨ k = 135 ∨ k = 148) → cw_at h2 k i = cw_at h1 k i := fun k i u => at_h (z7.1 k (by omega) (by omega) (by omega) (by omega) (by omega) (by omega))
    refine ⟨y, Gn, h2, rfl, hT2, po2.2.1.2, ⟨?_, ?_, p, (q.1 + m, fun g => gPs (zpT p g) (zTf p.2.1) (zTL p.1 p.2.1) m q.1 (q.2.1 g), q.2.2), ⟨⟨dr, lt, wf, kn⟩, ⟨by show 0 ≤ q.1 + (m : Int); omega, by show q.1 + (m : Int) ≤ 2000; omega⟩, fun g hg => ⟨gPs_R (gg g hg).1, zCA_P (gg g hg).2.1, zTk_P (gg g hg).2.2⟩, gu, gi⟩, zCE_r z7c hng (zCE_w ce0 hng fp.2.2.2.1 fp.1 fp.2.1 hW1 (fun g hg j hj => gPs_j hj)), zRp_e (fun k i u v => z7r k i (by omega)) (fun i u => z7.2 i (by omega) (by omega) (by omega)) rq1.1, ?_⟩, (hF2.1 149 rfl).trans (hF1.1 149 rfl), fun _ => Int32.toInt_inj.mp (by omega)⟩
    · refine zTa_e (fun k i u => ?_) t1
      rcases u with ⟨rfl, rfl⟩ | ⟨rfl, rfl⟩ | rfl | rfl | rfl
      · exact z7c 0 1 (by decide)
      · exact z7.2 1 (by decide) (by decide) (by decide)
      · exact z7c 1 i (by decide)
      · exact z7r 112 i (by omega)
      · exact z7c 52 i (by decide)
    · exact zNo_e (fun i _ => z7c 86 i (by decide)) (fun i u => z7.2 i (by omega) (by omega) (by omega)) n1
    · obtain ⟨-, -, ⟨u1, u2, u3⟩, u4⟩ := rq1.2
      refine ⟨sS, eW, ⟨(ri_eq (z7.2 50 (by decide) (by decide) (by decide))).trans u1, u2, fun i hi => ⟨(ri_eq (z7r 135 _ (by omega))).trans (u3 i hi).1, fun j hj => (ri_eq (z7r 135 _ (by omega))).trans ((u3 i hi).2 j hj)⟩⟩, ?_⟩
      rcases u4 with ⟨c1, c2⟩ | ⟨c1, c2, c3, c4⟩
      · exact .inl ⟨c1, (ri_eq (z7.2 66 (by decide) (by decide) (by decide))).trans c2⟩
      · exact .inr ⟨c1, (ri_eq (z7.2 66 (by decide) (by decide) (by decide))).trans c2, (ri_eq (z7.2 67 (by decide) (by decide) (by decide))).trans c3, fun g hg j hj => (ri_eq (z7r 148 _ (by omega))).trans (c4 g hg j hj)⟩
/-- ranges of a gate that a work asks -/
theorem zGd_r {p : zPp} {γ : Nat → Int} (a : zGd p γ) : (0 ≤ γ 10 ∧ γ 10 < 64) ∧ (-200000000 ≤ γ 4 ∧ γ 4 ≤ 200000000) ∧ (0 ≤ γ 5 ∧ γ 5 ≤ 100000) ∧ (0 ≤ γ 8 ∧ γ 8 ≤ 100000) := by
  obtain ⟨⟨r1, r2, r3, r4, r5, r6, r7, r8, r9, r10, -⟩, -, t1, t2, t3⟩ := a
  have := zPC_b (γ 10).toNat
  omega
theorem zGo_w {p : zPp} {q : zQs} (go : zGo p q) {w : Nat} (hw : w < znw p) : (0 ≤ zpw p 10 w ∧ zpw p 10 w ≤ 6) ∧ (0 ≤ zpw p 11 w ∧ zpw p 11 w ≤ 9999) ∧ zpw p 11 w ≤ zmo (zpw p 10 w) := by
  have := go.1.1.2.1 w hw
  have z := zmo_w (zpw p 10 w)
  unfold zpw at z ⊢
  omega
theorem zJ_c11 : zJ 125 227 2 true := by
  intro X Gn h as hX ha hT hP he
  match as, ha with
  | [g, w], _ =>
  have he0 := he
  obtain ⟨ta, no, p, ⟨W, γs, ⟨m, ν, υ⟩, iW, ι⟩, go, ce, rq⟩ := he
  obtain ⟨hng, hnw, -⟩ := zGo_g go
  have go0 := go
  obtain ⟨⟨f1, f2, kC, r4, r5⟩, b, cp, Bf, γc, υc, ιc, a1, a2, a3, a4, a5, a6, a7, a8⟩ := ce
  obtain ⟨⟨dr, lt, wf, kn⟩, W0, gg, gu, gi⟩ := go
  dsimp only at a2 a4 a5 a6 a7 a8 W0 gg gu gi
  have pmb : zPM b h := by
    rcases cp.1 with e | e
    · rw [e]; exact r4
    · rw [e]; exact r5
  have e10 : ∀ g, g < zng p → γc g 10 = γs g 10 := fun g hg => a2 g hg 10 (by decide) (by decide)
  have e4 : ∀ g, g < zng p → γc g 4 = γs g 4 := fun g hg => a2 g hg 4 (by decide) (by decide)
  have e5 : ∀ g, g < zng p → γc g 5 = γs g 5 := fun g hg => a2 g hg 5 (by decide) (by decide)
  have e8 : ∀ g, g < zng p → γc g 8 = γs g 8 := fun g hg => a2 g hg 8 (by decide) (by decide)
  have rW : ∀ w, w < znw p → (0 ≤ zpw p 10 w ∧ zpw p 10 w ≤ 6) ∧ (0 ≤ zpw p 11 w ∧ zpw p 11 w ≤ 9999) ∧ ri_at h 122 (3 * w + 1) = zpw p 10 w ∧ ri_at h 122 (3 * w + 2) = zpw p 11 w := fun w hw => ⟨(zGo_w go0 hw).1, (zGo_w go0 hw).2.1, (rq.1.2.1.2 w hw).2.1, (rq.1.2.1.2 w hw).2.2⟩
  refine zX_poI (K := kk_X11_work) hz_X11_work (k := 0) (d := 11) (as := [g, w]) rfl (by decide) rfl rfl hX hT hP ?_
  refine zX_efI (K := kk_X11_work) (E := ec_X11_work_0) (ie := 148) (as := [g, w]) rfl rfl rfl rfl f1 f2 ?_
  refine cq_work (γs := γc) (υ := υc) (wc := zpw p 9) (wk := zpw p 10) (wn := zpw p 11) hT cp.1 hng cp.2.2.2.1.1 kC (zPM_P pmb).2 cp.2.2.2.2.1 hnw (fun w hw => ⟨(zGo_w go0 hw).1, (zGo_w go0 hw).2.1⟩) cp.2.1 a1 (fun g hg => by rw [e10 g hg]; exact (zGd_r (gg g hg)).1) (fun g hg => by rw [e4 g hg, e5 g hg, e8 g hg]; exact (zGd_r (gg g hg)).2) a3 a4 (fun x ex cx fp po => ?_) (fun gn wi hg hgn hw hwl hb x h1 Bf' hT1 ex fr B' S' kG' fp po => ?_)
  · refine ⟨x, h, rfl, hT, rfl, ?_⟩
    refine zX_poI (K := kk_X12_work) (hk_X12_work hz_X12_loads hz_X12_does hz_X12_lays_1) (k := 111) (d := 12) (as := [g, w]) rfl (by decide) rfl rfl hX hT hP ?_
    refine rq_work hT rq.2.2.2.1 hng rq.1.1.1 (fun g hg => (zGd_r (gg g hg)).1) (fun g hg => (zGd_r (gg g hg)).2) rq.2.1 rq.1.2.1.1 hnw rW (fun y h2 hT2 ey zq wy cy po2 => ?_) (fun gn wi hg hgn hw hwl hb y h2 hT2 ey zq zu zs po2 => ?_)
    · exact ⟨y, Gn, h2, rfl, hT2, po2.2.1.2, lg_E_R he0 (zQR_w wy), po2.2.2.1.1 149 rfl, fun _ => Int32.toInt_inj.mp (by omega)⟩
    · exfalso
      refine cx ⟨by omega, by omega, ?_⟩
      rw [show g.toInt.toNat = gn from by omega, show w.toInt.toNat = wi from by omega, e10 gn hgn]
      exact hb
  · have hF1 : cw_Fr cw_Ds cw_sh kk_X11_work.2.2.2.2.2.1 h h1 := po.2.2.1
    have s1 := lg_nr_e hT hT1 hF1 (by decide +kernel)
    have rq1 : zRQ h1 p (W, γs, (m, ν, υ), iW, ι) := zRQ_c s1 rq
    have rW1 : ∀ w, w < znw p → (0 ≤ zpw p 10 w ∧ zpw p 10 w ≤ 6) ∧ (0 ≤ zpw p 11 w ∧ zpw p 11 w ≤ 9999) ∧ ri_at h1 122 (3 * w + 1) = zpw p 10 w ∧ ri_at h1 122 (3 * w + 2) = zpw p 11 w := fun w hw => ⟨(rW w hw).1, (rW w hw).2.1, (rq1.1.2.1.2 w hw).2.1, (rq1.1.2.1.2 w hw).2.2⟩
    have hb' : ¬ (γs gn 10).toNat.testBit wi = true := by rw [← e10 gn hgn]; exact hb
    refine ⟨x, h1, rfl, hT1, hF1.1 149 rfl, ?_⟩
    have tg := gTake_G (gg gn hgn).1 (gg gn hgn).2.2 (by omega) hb' (zGo_w go0 hwl).1 ⟨(zGo_w go0 hwl).2.1.1, (zGo_w go0 hwl).2.2⟩
    have go1 : zGo p (W, zfU γs gn (gTake (γs gn) (zpw p 10 wi) (zpw p 11 wi) wi), (min (m + 1) 20, uP m ν gn, uP m υ (γs gn)), iW, ι) := by
      refine ⟨⟨dr, lt, wf, kn⟩, W0, fun g2 hg2 => ?_, ⟨by show min (m + 1) 20 ≤ 20; omega, uP_all2 (P := fun a b => a < zng p ∧ zGd p b) gu.1 gu.2 ⟨hgn, gg gn hgn⟩⟩, gi⟩
      show zGd p (zfU γs gn _ g2)
      by_cases c : g2 = gn
      · rw [c, zfU_eq]; exact ⟨tg.1, zCA_K (gg gn hgn).2.1, tg.2⟩
      · rw [zfU_ne c]; exact gg g2 hg2
    have fl : ∀ k i, (k < 63 ∨ 85 < k) → k ≠ 103 + 2 * gn → cw_at h1 k i = cw_at h k i := fun k i u v => at_h (fr k u v)
    have ce1 : zCE h1 p (W, zfU γs gn (gTake (γs gn) (zpw p 10 wi) (zpw p 11 wi) wi), (min (m + 1) 20, uP m ν gn, uP m υ (γs gn)), iW, ι) := by
      refine ⟨⟨fp.1, fp.2.1, fun g2 hg2 => ⟨(fl 61 g2 (by omega) (by omega)).trans (kC g2 hg2).1, (fl 62 g2 (by omega) (by omega)).trans (kC g2 hg2).2⟩, zPM_a (.inl rfl) (fun k i u v => fl k i (by omega) (by omega)) r4, zPM_a (.inr rfl) (fun k i u v => fl k i (by omega) (by omega)) r5⟩, b, zCp_e (fun i u => fl 0 i (by omega) (by omega)) (fun k i u v => fl k i (by have := cp.1; omega) (by have := cp.1; omega)) hng cp, Bf', zfU γc gn (gTake (γc gn) (zpw p 10 wi) (zpw p 11 wi) wi), uP m υc (γc gn), ιc, kG', fun g2 hg2 => ?_, B', S', uP_all2 (P := zEq) gu.1 a5 (a2 gn hgn), (ri_eq (fl 0 8 (by omega) (by omega))).trans a6, (ri_eq (fl 0 10 (by omega) (by omega))).trans a7, fun c g2 hg2 => ?_⟩
      · show zEq (zfU γc gn _ g2) (zfU γs gn _ g2)
        by_cases c : g2 = gn
        · rw [c, zfU_eq, zfU_eq]; exact gTake_E (a2 gn hgn)
        · rw [zfU_ne c, zfU_ne c]; exact a2 g2 hg2
      · obtain ⟨c1, c2, c3⟩ := a8 c g2 hg2
        exact ⟨zGV_a (fun j => fl _ j (by omega) (by omega)) c1, (fl _ 0 (by omega) (by omega)).trans c2, c3⟩
    refine zX_poI (K := kk_X12_work) (hk_X12_work hz_X12_loads hz_X12_does hz_X12_lays_1) (k := 111) (d := 12) (as := [g, w]) rfl (by decide) rfl rfl hX hT1 po.2.1.2 ?_
    refine rq_work hT1 rq1.2.2.2.1 hng rq1.1.1.1 (fun g hg => (zGd_r (gg g hg)).1) (fun g hg => (zGd_r (gg g hg)).2) rq1.2.1 rq1.1.2.1.1 hnw rW1 (fun y h2 hT2 ey zq wy cy po2 => ?_) (fun gn2 wi2 hg2 hgn2 hw2 hwl2 hb2 y h2 hT2 ey zq zu zs po2 => ?_)
    · exfalso
      refine cy ⟨by omega, by omega, ?_⟩
      rw [show g.toInt.toNat = gn from by omega, show w.toInt.toNat = wi from by omega]
      exact hb'
    · have eg : gn2 = gn := by omega
      have ew : wi2 = wi := by omega
      subst eg ew
      have zc : ∀ k i, k < 111 → cw_at h2 k i = cw_at h1 k i := fun k i u => at_h (zq.1 k (by omega) (by omega) (by omega) (by omega))
      have zr : ∀ k i, (112 ≤ k ∧ k ≤ 127 ∨ k = 148) → cw_at h2 k i = cw_at h1 k i := fun k i u => at_h (zq.1 k (by omega) (by omega) (by omega) (by omega))
      refine ⟨y, Gn, h2, rfl, hT2, po2.2.1.2, ⟨?_, ?_, p, _, go1, zCE_r zc hng ce1, zRp_e (fun k i u v => zr k i (by omega)) (fun i u => zq.2 i (by omega) (by omega)) rq1.1, zs, (ri_eq (zq.2 43 (by decide) (by decide))).trans rq1.2.2.1, zu, ?_⟩, (po2.2.2.1.1 149 rfl).trans (hF1.1 149 rfl), fun _ => Int32.toInt_inj.mp (by omega)⟩
      · refine zTa_e (fun k i u => ?_) ta
        rcases u with ⟨rfl, rfl⟩ | ⟨rfl, rfl⟩ | rfl | rfl | rfl
        · exact (zc 0 1 (by decide)).trans (fl 0 1 (by omega) (by omega))
        · exact (zq.2 1 (by decide) (by decide)).trans (s1 111 1 (by decide) (by decide))
        · exact (zc 1 i (by decide)).trans (fl 1 i (by omega) (by omega))
        · exact (zr 112 i (by omega)).trans (s1 112 i (by decide) (by decide))
        · exact (zc 52 i (by decide)).trans (fl 52 i (by omega) (by omega))
      · exact zNo_e (fun i _ => (zc 86 i (by decide)).trans (fl 86 i (by omega) (by omega))) (fun i u => (zq.2 i (by omega) (by omega)).trans (s1 111 i (by decide) (by decide))) no
      · rcases rq1.2.2.2.2 with ⟨c1, c2⟩ | ⟨c1, c2, c3, c4⟩
        · exact .inl ⟨c1, (ri_eq (zq.2 66 (by decide) (by decide))).trans c2⟩
        · exact .inr ⟨c1, (ri_eq (zq.2 66 (by decide) (by decide))).trans c2, (ri_eq (zq.2 67 (by decide) (by decide))).trans c3, fun g hg j hj => (ri_eq (zr 148 _ (by omega))).trans (c4 g hg j hj)⟩
theorem zJ_c12 : zJ 126 228 0 true := by
  intro X Gn h as hX ha hT hP he
  match as, ha with
  | [], _ =>
  have he0 := he
  obtain ⟨ta, no, p, ⟨W, γs, ⟨m, ν, υ⟩, iW, ι⟩, go, ce, rq⟩ := he
  obtain ⟨hng, hnw, -⟩ := zGo_g go
  have go0 := go
  obtain ⟨⟨f1, f2, kC, r4, r5⟩, b, cp, Bf, γc, υc, ιc, a1, a2, a3, a4, a5, a6, a7, a8⟩ := ce
  obtain ⟨⟨dr, lt, wf, kn⟩, W0, gg, gu, gi⟩ := go
  dsimp only at a2 a4 a5 a6 a7 a8 W0 gg gu gi
  refine zX_poI (K := kk_X11_undo) hz_X11_undo (k := 0) (d := 11) (as := []) rfl (by decide) rfl rfl hX hT hP ?_
  refine zX_efI (K := kk_X11_undo) (E := ec_X11_undo_0) (ie := 152) (as := []) rfl rfl rfl rfl f1 f2 ?_
  cases m with
  | zero =>
    refine cq_undo0 hT a4.1 (fun x ex fp po => ⟨x, h, rfl, hT, rfl, ?_⟩)
    refine zX_poI (K := kk_X12_undo) hz_X12_undo (k := 111) (d := 12) (as := []) rfl (by decide) rfl rfl hX hT hP ?_
    refine rq_undo0 hT rq.2.2.2.1.1 (fun y h2 hT2 ey zq wy po2 => ?_)
    exact ⟨y, Gn, h2, rfl, hT2, po2.2.1.2, lg_E_R he0 (zQR_w wy), po2.2.2.1.1 149 rfl, fun _ => Int32.toInt_inj.mp (by omega)⟩
  | succ k =>
    have hν := gu.2 k (by omega)
    refine cq_undo1 (γs := γc) (υ := υc) hT cp.1 hng cp.2.2.2.1.1 kC cp.2.1 a1 a3 a4 hν.1 (fun x h1 hT1 ex fr B' S' kG' fp po => ?_)
    have hF1 : cw_Fr cw_Ds cw_sh kk_X11_undo.2.2.2.2.2.1 h h1 := po.2.2.1
    have s1 := lg_nr_e hT hT1 hF1 (by decide +kernel)
    have rq1 : zRQ h1 p (W, γs, (k + 1, ν, υ), iW, ι) := zRQ_c s1 rq
    refine ⟨x, h1, rfl, hT1, hF1.1 149 rfl, ?_⟩
    have fl : ∀ k2 i, (k2 < 63 ∨ 85 < k2) → k2 ≠ 103 + 2 * ν k → cw_at h1 k2 i = cw_at h k2 i := fun k2 i u v => at_h (fr k2 u v)
    have go1 : zGo p (W, zfU γs (ν k) (υ k), (k, ν, υ), iW, ι) := by
      refine ⟨⟨dr, lt, wf, kn⟩, W0, fun g2 hg2 => ?_, ⟨by show k ≤ 20; omega, fun i hi => gu.2 i (by have : i < k := hi; omega)⟩, gi⟩
      show zGd p (zfU γs (ν k) _ g2)
      by_cases c : g2 = ν k
      · rw [c, zfU_eq]; exact hν.2
      · rw [zfU_ne c]; exact gg g2 hg2
    have ce1 : zCE h1 p (W, zfU γs (ν k) (υ k), (k, ν, υ), iW, ι) := by
      refine ⟨⟨fp.1, fp.2.1, fun g2 hg2 => ⟨(fl 61 g2 (by omega) (by omega)).trans (kC g2 hg2).1, (fl 62 g2 (by omega) (by omega)).trans (kC g2 hg2).2⟩, zPM_a (.inl rfl) (fun k i u v => fl k i (by omega) (by omega)) r4, zPM_a (.inr rfl) (fun k i u v => fl k i (by omega) (by omega)) r5⟩, b, zCp_e (fun i u => fl 0 i (by omega) (by omega)) (fun k i u v => fl k i (by have := cp.1; omega) (by have := cp.1; omega)) hng cp, Bf, zfU γc (ν k) (υc k), υc, ιc, kG', fun g2 hg2 => ?_, B', S', fun i hi => a5 i (by have : i < k := hi; omega), (ri_eq (fl 0 8 (by omega) (by omega))).trans a6, (ri_eq (fl 0 10 (by omega) (by omega))).trans a7, fun c g2 hg2 => ?_⟩
      · show zEq (zfU γc (ν k) _ g2) (zfU γs (ν k) _ g2)
        by_cases c : g2 = ν k
        · rw [c, zfU_eq, zfU_eq]; exact a5 k (by omega)
        · rw [zfU_ne c, zfU_ne c]; exact a2 g2 hg2
      · obtain ⟨c1, c2, c3⟩ := a8 c g2 hg2
        exact ⟨zGV_a (fun j => fl _ j (by omega) (by omega)) c1, (fl _ 0 (by omega) (by omega)).trans c2, c3⟩
    refine zX_poI (K := kk_X12_undo) hz_X12_undo (k := 111) (d := 12) (as := []) rfl (by decide) rfl rfl hX hT1 po.2.1.2 ?_
    refine rq_undo1 hT1 rq1.2.2.2.1 hng hν.1 rq1.2.1 (fun y h2 hT2 ey zq zu zs po2 => ?_)
    have zc : ∀ k i, k < 111 → cw_at h2 k i = cw_at h1 k i := fun k i u => at_h (zq.1 k (by omega) (by omega) (by omega) (by omega))
    have zr : ∀ k i, (112 ≤ k ∧ k ≤ 127 ∨ k = 148) → cw_at h2 k i = cw_at h1 k i := fun k i u => at_h (zq.1 k (by omega) (by omega) (by omega) (by omega))
    refine ⟨y, Gn, h2, rfl, hT2, po2.2.1.2, ⟨?_, ?_, p, _, go1, zCE_r zc hng ce1, zRp_e (fun k i u v => zr k i (by omega)) (fun i u => zq.2 i (by omega) (by omega)) rq1.1, zs, (ri_eq (zq.2 43 (by decide) (by decide))).trans rq1.2.2.1, zu, ?_⟩, (po2.2.2.1.1 149 rfl).trans (hF1.1 149 rfl), fun _ => Int32.toInt_inj.mp (by omega)⟩
    · refine zTa_e (fun k i u => ?_) ta
      rcases u with ⟨rfl, rfl⟩ | ⟨rfl, rfl⟩ | rfl | rfl | rfl
      · exact (zc 0 1 (by decide)).trans (fl 0 1 (by omega) (by omega))
      · exact (zq.2 1 (by decide) (by decide)).trans (s1 111 1 (by decide) (by decide))
      · exact (zc 1 i (by decide)).trans (fl 1 i (by omega) (by omega))
      · exact (zr 112 i (by omega)).trans (s1 112 i (by decide) (by decide))
      · exact (zc 52 i (by decide)).trans (fl 52 i (by omega) (by omega))
    · exact zNo_e (fun i _ => (zc 86 i (by decide)).trans (fl 86 i (by omega) (by omega))) (fun i u => (zq.2 i (by omega) (by omega)).trans (s1 111 i (by decide) (by decide))) no
    · rcases rq1.2.2.2.2 with ⟨c1, c2⟩ | ⟨c1, c2, c3, c4⟩
      · exact .inl ⟨c1, (ri_eq (zq.2 66 (by decide) (by decide))).trans c2⟩
      · exact .inr ⟨c1, (ri_eq (zq.2 66 (by decide) (by decide))).trans c2, (ri_eq (zq.2 67 (by decide) (by decide))).trans c3, fun g hg j hj => (ri_eq (zr 148 _ (by omega))).trans (c4 g hg j hj)⟩
theorem zJ_c33 : zJ 150 270 0 true := by
  intro X Gn h as hX ha hT hP he
  match as, ha with
  | [], _ =>
  obtain ⟨ta, no, p, ⟨W, γs, ⟨m, ν, υ⟩, iW, ι⟩, go, ce, rq⟩ := he
  obtain ⟨hng, hnw, -⟩ := zGo_g go
  obtain ⟨⟨f1, f2, kC, r4, r5⟩, b, cp, Bf, γc, υc, ιc, a1, a2, a3, a4, a5, a6, a7, a8⟩ := ce
  obtain ⟨⟨dr, lt, wf, kn⟩, W0, gg, gu, gi⟩ := go
  dsimp only at a2 a4 a5 a6 a7 a8 W0 gg gu gi
  refine zX_poI (K := kk_X11_keep) hz_X11_keep (k := 0) (d := 11) (as := []) rfl (by decide) rfl rfl hX hT hP ?_
  refine zX_efI (K := kk_X11_keep) (E := ec_X11_keep_0) (ie := 233) (as := []) rfl rfl rfl rfl f1 f2 ?_
  refine cq_keep hT kC (fun x h1 hT1 fr fr0 ex e10 im fp po => ?_)
  have hF1 : cw_Fr cw_Ds cw_sh kk_X11_keep.2.2.2.2.2.1 h h1 := po.2.2.1
  have s1 := lg_nr_e hT hT1 hF1 (by decide +kernel)
  have rq1 : zRQ h1 p (W, γs, (m, ν, υ), iW, ι) := zRQ_c s1 rq
  refine ⟨x, h1, rfl, hT1, hF1.1 149 rfl, ?_⟩
  have fl : ∀ k i, k ≠ 0 → (∀ g, g < 4 → k ≠ 104 + 2 * g) → cw_at h1 k i = cw_at h k i := fun k i u v => at_h (fr k u v)
  have go1 : zGo p (W, γs, (m, ν, υ), W, γs) := ⟨⟨dr, lt, wf, kn⟩, W0, gg, gu, .inr ⟨W0, gg⟩⟩
  have ce1 : zCE h1 p (W, γs, (m, ν, υ), W, γs) := by
    refine ⟨⟨fp.1, fp.2.1, fun g2 hg2 => ⟨(fl 61 g2 (by omega) (by omega)).trans (kC g2 hg2).1, (fl 62 g2 (by omega) (by omega)).trans (kC g2 hg2).2⟩, zPM_a (.inl rfl) (fun k i u v => fl k i (by omega) (by omega)) r4, zPM_a (.inr rfl) (fun k i u v => fl k i (by omega) (by omega)) r5⟩, b, zCp_e (fun i u => fr0 i (by omega)) (fun k i u v => fl k i (by have := cp.1; omega) (by have := cp.1; omega)) hng cp, Bf, γc, υc, γc, fun g2 hg2 => ⟨zGV_a (fun j => fl (103 + 2 * g2) j (by omega) (by omega)) (a1 g2 hg2).1, (fl (103 + 2 * g2) 0 (by omega) (by omega)).trans (a1 g2 hg2).2⟩, a2, zUB_a (fun k i u v => fl k i (by omega) (by omega)) a3, zUS_a (fun k i u v => fl k i (by omega) (by omega)) a3 a4, a5, (ri_eq (fr0 8 (by decide))).trans a6, e10.trans a6, fun c g2 hg2 => ⟨fun j hj => ((im g2 (by omega)).1 j hj).trans ((a1 g2 hg2).1 j hj), (im g2 (by omega)).2.trans (a1 g2 hg2).2, a2 g2 hg2⟩⟩
  refine zX_poI (K := kk_X12_keep) hz_X12_keep (k := 111) (d := 12) (as := []) rfl (by decide) rfl rfl hX hT1 po.2.1.2 ?_
  refine rq_keep hT1 (fun y h2 hT2 zk ey e66 e67 e148 po2 => ?_)
  have w1 : ri_at h1 111 43 = W := rq1.2.2.1
  have zc : ∀ k i, k < 111 → cw_at h2 k i = cw_at h1 k i := fun k i u => at_h (zk.1 k (by omega) (by omega))
  have zr : ∀ k i, (112 ≤ k ∧ k ≤ 127 ∨ k = 130 ∨ k = 135) → cw_at h2 k i = cw_at h1 k i := fun k i u => at_h (zk.1 k (by omega) (by omega))
  refine ⟨y, Gn, h2, rfl, hT2, po2.2.1.2, ⟨?_, ?_, p, _, go1, zCE_r zc hng ce1, zRp_e (fun k i u v => zr k i (by omega)) (fun i u => zk.2 i (by omega) (by omega) (by omega)) rq1.1, fun g hg j hj => (ri_eq (zr 130 _ (by omega))).trans (rq1.2.1 g hg j hj), (ri_eq (zk.2 43 (by decide) (by decide) (by decide))).trans w1, ?_, .inr ⟨by show ¬ W = -1; omega, e66, e67.trans w1, fun g hg j hj => (e148 _ (by omega)).trans (rq1.2.1 g hg j hj)⟩⟩, (po2.2.2.1.1 149 rfl).trans (hF1.1 149 rfl), fun _ => Int32.toInt_inj.mp (by omega)⟩
  · refine zTa_e (fun k i u => ?_) ta
    rcases u with ⟨rfl, rfl⟩ | ⟨rfl, rfl⟩ | rfl | rfl | rfl
    · exact (zc 0 1 (by decide)).trans (fr0 1 (by decide))
    · exact (zk.2 1 (by decide) (by decide) (by decide)).trans (s1 111 1 (by decide) (by decide))
    · exact (zc 1 i (by decide)).trans (fl 1 i (by omega) (by omega))
    · exact (zr 112 i (by omega)).trans (s1 112 i (by decide) (by decide))
    · exact (zc 52 i (by decide)).trans (fl 52 i (by omega) (by omega))
  · exact zNo_e (fun i _ => (zc 86 i (by decide)).trans (fl 86 i (by omega) (by omega))) (fun i u => (zk.2 i (by omega) (by omega) (by omega)).trans (s1 111 i (by decide) (by decide))) no
  · obtain ⟨u1, u2, u3⟩ := rq1.2.2.2.1
    exact ⟨(ri_eq (zk.2 50 (by decide) (by decide) (by decide))).trans u1, u2, fun i hi => ⟨(ri_eq (zr 135 _ (by omega))).trans (u3 i hi).1, fun j hj => (ri_eq (zr 135 _ (by omega))).trans ((u3 i hi).2 j hj)⟩⟩
theorem zJ_c34 : zJ 151 271 0 true := by
  intro X Gn h as hX ha hT hP he
  match as, ha with
  | [], _ =>
  have he0 := he
  obtain ⟨ta, no, p, ⟨W, γs, ⟨m, ν, υ⟩, iW, ι⟩, go, ce, rq⟩ := he
  obtain ⟨hng, hnw, -⟩ := zGo_g go
  obtain ⟨⟨f1, f2, kC, r4, r5⟩, b, cp, Bf, γc, υc, ιc, a1, a2, a3, a4, a5, a6, a7, a8⟩ := ce
  obtain ⟨⟨dr, lt, wf, kn⟩, W0, gg, gu, gi⟩ := go
  dsimp only at a2 a4 a5 a6 a7 a8 W0 gg gu gi
  refine zX_poI (K := kk_X11_back) hz_X11_back (k := 0) (d := 11) (as := []) rfl (by decide) rfl rfl hX hT hP ?_
  refine zX_efI (K := kk_X11_back) (E := ec_X11_back_0) (ie := 235) (as := []) rfl rfl rfl rfl f1 f2 ?_
  refine cq_back hT kC (fun x ex c10 fp po => ⟨x, h, rfl, hT, rfl, ?_⟩) (fun c10 x h1 hT1 fr fr0 ex e8 e63 im fp po => ?_)
  · refine zX_poI (K := kk_X12_back) hz_X12_back (k := 111) (d := 12) (as := []) rfl (by decide) rfl rfl hX hT hP ?_
    refine rq_back hT (fun c66 y h2 hT2 ey wy po2 => ?_) (fun c66 y h2 hT2 zb ey e43 e50 e130 po2 => ?_)
    · exact ⟨y, Gn, h2, rfl, hT2, po2.2.1.2, lg_E_R he0 (zQR_w wy), po2.2.2.1.1 149 rfl, fun _ => Int32.toInt_inj.mp (by omega)⟩
    · exfalso
      rcases rq.2.2.2.2 with ⟨c1, c2⟩ | ⟨c1, c2, c3, c4⟩
      · exact c66 c2
      · exact c1 (a7.symm.trans c10)
  · have hF1 : cw_Fr cw_Ds cw_sh kk_X11_back.2.2.2.2.2.1 h h1 := po.2.2.1
    have s1 := lg_nr_e hT hT1 hF1 (by decide +kernel)
    have rq1 : zRQ h1 p (W, γs, (m, ν, υ), iW, ι) := zRQ_c s1 rq
    have ciW : ¬ iW = -1 := fun e => c10 (a7.trans e)
    refine ⟨x, h1, rfl, hT1, hF1.1 149 rfl, ?_⟩
    have fl : ∀ k i, k ≠ 0 → k ≠ 63 → (∀ g, g < 4 → k ≠ 103 + 2 * g) → cw_at h1 k i = cw_at h k i := fun k i u v w => at_h (fr k u v w)
    have gi2 : (0 ≤ iW ∧ iW ≤ 2000) ∧ ∀ g, g < zng p → zGd p (ι g) := by
      rcases gi with c | c
      · exact absurd c ciW
      · exact c
    have go1 : zGo p (iW, ι, (0, ν, υ), iW, ι) := ⟨⟨dr, lt, wf, kn⟩, gi2.1, gi2.2, ⟨by show (0 : Nat) ≤ 20; omega, fun i hi => absurd hi (Nat.not_lt_zero i)⟩, .inr gi2⟩
    have ce1 : zCE h1 p (iW, ι, (0, ν, υ), iW, ι) := by
      refine ⟨⟨fp.1, fp.2.1, fun g2 hg2 => ⟨(fl 61 g2 (by omega) (by omega) (by omega)).trans (kC g2 hg2).1, (fl 62 g2 (by omega) (by omega) (by omega)).trans (kC g2 hg2).2⟩, zPM_a (.inl rfl) (fun k i u v => fl k i (by omega) (by omega) (by omega)) r4, zPM_a (.inr rfl) (fun k i u v => fl k i (by omega) (by omega) (by omega)) r5⟩, b, zCp_e (fun i u => fr0 i (by omega)) (fun k i u v => fl k i (by have := cp.1; omega) (by have := cp.1; omega) (by have := cp.1; omega)) hng cp, Bf, ιc, υc, ιc, fun g2 hg2 => ?_, fun g2 hg2 => (a8 ciW g2 hg2).2.2, ⟨fun i hi => ⟨(fl 64 i (by decide) (by decide) (by omega)).trans (a3.1 i hi).1, (a3.1 i hi).2⟩, a3.2⟩, ⟨e63, by show (0 : Nat) ≤ 20; omega, fun i hi => absurd hi (Nat.not_lt_zero i)⟩, fun i hi => absurd hi (Nat.not_lt_zero i), e8.trans a7, (ri_eq (fr0 10 (by decide))).trans a7, fun c g2 hg2 => ?_⟩
      · obtain ⟨c1, c2, c3⟩ := a8 ciW g2 hg2
        exact ⟨fun j hj => ((im g2 (by omega)).1 j hj).trans (c1 j hj), (im g2 (by omega)).2.trans c2⟩
      · obtain ⟨c1, c2, c3⟩ := a8 ciW g2 hg2
        exact ⟨zGV_a (fun j => fl _ j (by omega) (by omega) (by omega)) c1, (fl _ 0 (by omega) (by omega) (by omega)).trans c2, c3⟩
    refine zX_poI (K := kk_X12_back) hz_X12_back (k := 111) (d := 12) (as := []) rfl (by decide) rfl rfl hX hT1 po.2.1.2 ?_
    refine rq_back hT1 (fun c66 y h2 hT2 ey wy po2 => ?_) (fun c66 y h2 hT2 zb ey e43 e50 e130 po2 => ?_)
    · exfalso
      rcases rq1.2.2.2.2 with ⟨c1, c2⟩ | ⟨c1, c2, c3, c4⟩
      · exact ciW c1
      · omega
    · obtain ⟨d1, d2, d3, d4⟩ : ¬ iW = -1 ∧ ri_at h1 111 66 = 1 ∧ ri_at h1 111 67 = iW ∧ ∀ g, g < zng p → ∀ j, j < 11 → ri_at h1 148 (16 * g + j) = ι g (zni j) := by
        rcases rq1.2.2.2.2 with ⟨c1, c2⟩ | c
        · exact absurd c1 ciW
        · exact c
      have zc : ∀ k i, k < 111 → cw_at h2 k i = cw_at h1 k i := fun k i u => at_h (zb.1 k (by omega) (by omega))
      have zr : ∀ k i, (112 ≤ k ∧ k ≤ 127 ∨ k = 148) → cw_at h2 k i = cw_at h1 k i := fun k i u => at_h (zb.1 k (by omega) (by omega))
      refine ⟨y, Gn, h2, rfl, hT2, po2.2.1.2, ⟨?_, ?_, p, _, go1, zCE_r zc hng ce1, zRp_e (fun k i u v => zr k i (by omega)) (fun i u => zb.2 i (by omega) (by omega) (by omega)) rq1.1, fun g hg j hj => (e130 _ (by omega)).trans (d4 g hg j hj), e43.trans d3, ⟨e50, by show (0 : Nat) ≤ 20; omega, fun i hi => absurd hi (Nat.not_lt_zero i)⟩, .inr ⟨ciW, (ri_eq (zb.2 66 (by decide) (by decide) (by decide))).trans d2, (ri_eq (zb.2 67 (by decide) (by decide) (by decide))).trans d3, fun g hg j hj => (ri_eq (zr 148 _ (by omega))).trans (d4 g hg j hj)⟩⟩, (po2.2.2.1.1 149 rfl).trans (hF1.1 149 rfl), fun _ => Int32.toInt_inj.mp (by omega)⟩
      · refine zTa_e (fun k i u => ?_) ta
        rcases u with ⟨rfl, rfl⟩ | ⟨rfl, rfl⟩ | rfl | rfl | rfl
        · exact (zc 0 1 (by decide)).trans (fr0 1 (by decide))
        · exact (zb.2 1 (by decide) (by decide) (by decide)).trans (s1 111 1 (by decide) (by decide))
        · exact (zc 1 i (by decide)).trans (fl 1 i (by omega) (by omega) (by omega))
        · exact (zr 112 i (by omega)).trans (s1 112 i (by decide) (by decide))
        · exact (zc 52 i (by decide)).trans (fl 52 i (by omega) (by omega) (by omega))
      · exact zNo_e (fun i _ => (zc 86 i (by decide)).trans (fl 86 i (by omega) (by omega) (by omega))) (fun i u => (zb.2 i (by omega) (by omega) (by omega)).trans (s1 111 i (by decide) (by decide))) no
end JW
end
section
/-! ===== a text: both sides ===== -/
section JT
variable {X : cv_X} {Gn : Int} {h h1 h2 : cv_H} {p : zPp} {q : zQs}
/-- the lower halves of the reference's rows hold all that is kept -/
theorem zRL_f {l : Nat} (hl : l < 4) {o : Option (List Int)} (k : zFK h h1) (a : zRL h l o) : zRL h1 l o := by
  cases o with
  | none => exact (k 117 l (by show l < 4; exact hl)).trans a
  | some cs =>
    obtain ⟨c1, c2, x, c3, c4, c5, c6⟩ := a
    refine ⟨(k 117 l (by show l < 4; exact hl)).trans c1, c2, x, (k 115 l (by show l < 4; exact hl)).trans c3, (k 116 l (by show l < 4; exact hl)).trans c4, c5, zKN_mv c6 (fun j hj => ⟨k 125 _ (by show 0 + (x + j) < 64; omega), k 126 _ (by show 0 + (x + j) < 64; omega), k 127 _ (by show 0 + (x + j) < 64; omega)⟩)⟩
theorem zRp_f (hng : zng p ≤ 4) (hnw : znw p ≤ 6) (hnc : znc p ≤ 6) (k : zFK h h1) (e : ∀ i, i = 12 ∨ i = 13 ∨ i = 14 ∨ i = 15 → ri_at h1 111 i = ri_at h 111 i) (a : zRp h p) : zRp h1 p := by
  obtain ⟨⟨d1, d2, d3, d4, d5, d6, d7⟩, ⟨s1, s2⟩, a3, a4, a5⟩ := a
  exact ⟨⟨(e 12 (by omega)).trans d1, (e 14 (by omega)).trans d2, fun g hg j hj => (k 119 _ (by show 16 * g + j < 64; omega)).trans (d3 g hg j hj), fun j hj => (k 114 j (by show j < 12; exact hj)).trans (d4 j hj), fun l hl => zRL_f hl k (d5 l hl), fun c hc => (k 124 _ (by show 3 * c + 1 < 18; omega)).trans (d6 c hc), fun c hc => (k 124 _ (by show 3 * c + 2 < 18; omega)).trans (d7 c hc)⟩, ⟨(e 13 (by omega)).trans s1, fun w hw => ⟨(k 122 _ (by show 3 * w < 18; omega)).trans (s2 w hw).1, (k 122 _ (by show 3 * w + 1 < 18; omega)).trans (s2 w hw).2.1, (k 122 _ (by show 3 * w + 2 < 18; omega)).trans (s2 w hw).2.2⟩⟩, (e 15 (by omega)).trans a3, fun g hg j hj => (k 120 _ (by show 9 * g + j < 36; omega)).trans (a4 g hg j hj), fun c hc => (k 124 _ (by show 3 * c < 18; omega)).trans (a5 c hc)⟩
theorem zRq_f {ng : Nat} (e1 : ∀ i, ri_at h1 130 i = ri_at h 130 i) (e2 : ∀ i, ri_at h1 135 i = ri_at h 135 i) (e3 : ∀ i, ri_at h1 148 i = ri_at h 148 i) (e0 : ∀ i, i = 43 ∨ i = 50 ∨ i = 66 ∨ i = 67 → ri_at h1 111 i = ri_at h 111 i) (a : zRq h ng q) : zRq h1 ng q := by
  obtain ⟨a1, a2, ⟨u1, u2, u3⟩, a4⟩ := a
  refine ⟨fun g hg j hj => (e1 _).trans (a1 g hg j hj), (e0 43 (by omega)).trans a2, ⟨(e0 50 (by omega)).trans u1, u2, fun i hi => ⟨(e2 _).trans (u3 i hi).1, fun j hj => (e2 _).trans ((u3 i hi).2 j hj)⟩⟩, ?_⟩
  rcases a4 with ⟨c1, c2⟩ | ⟨c1, c2, c3, c4⟩
  · exact .inl ⟨c1, (e0 66 (by omega)).trans c2⟩
  · exact .inr ⟨c1, (e0 66 (by omega)).trans c2, (e0 67 (by omega)).trans c3, fun g hg j hj => (e3 _).trans (c4 g hg j hj)⟩
theorem gBg_c {T T' : Nat → Int} {m0 m1 m2 : Int} (e : ∀ j, j < 16 → T j = T' j) : gBegin T m0 m1 m2 = gBegin T' m0 m1 m2 := by
  unfold gBegin
  rw [e 7 (by decide), e 9 (by decide), e 12 (by decide), e 14 (by decide), e 5 (by decide), e 6 (by decide)]
/-- gates begun, of a plan told -/
def zB0 (p : zPp) (g : Nat) : Nat → Int := gBegin (zpT p g) (zMs (p.2.1.1 14) (p.2.1.1 15) (zpT p g 14).toNat 0 (znc p)) (zMs (p.2.1.1 14) (p.2.1.1 15) (zpT p g 14).toNat 1 (znc p)) (zMs (p.2.1.1 14) (p.2.1.1 15) (zpT p g 14).toNat 2 (znc p))
theorem zB0_G (r : zDR p.1 p.2.1) {g : Nat} (hg : g < zng p) : zGd p (zB0 p g) := by
  have P := zPD_T (e := p.2.2) r
  have rT := P.2.2.1 g hg
  have hv := P.2.2.2.2.1
  have n6 : znc p ≤ 6 := P.2.1
  have b := fun k => zMs_b (dk := p.2.1.1 14) (dv := p.2.1.1 15) (S := (zpT p g 14).toNat) (kind := k) hv (znc p)
  refine ⟨gBg_G rT ?_ ?_ ?_, gBg_C, zTk_B ?_ rT.2.2.2.2.2.2.2.2.2.2.2.1.2⟩
  · have := b 0; omega
  · have := b 1; omega
  · have := b 2; omega
  · exact rT.2.2.2.2.2.2.1
theorem hrp_TF (f : ef_fok ec_TF h) {sp : Nat} (hs : sp = 2 ∨ sp = 26) : ∀ i, i < 4 → cw_at h (sp + 16 + 2 * i) 16 = some (cv_r (sp + 16 + 2 * i + 1)) := by
  intro i hi
  have c : ∀ s : Fin 2, ∀ i : Fin 4, (((bif s.1 == 0 then 2 else 26) + 16 + 2 * i.1, 16, [(bif s.1 == 0 then 2 else 26) + 16 + 2 * i.1 + 1]) : Nat × Nat × List Nat) ∈ ec_TF := by decide
  rcases hs with rfl | rfl
  · obtain ⟨x, hx, e⟩ := f _ (c 0 ⟨i, hi⟩)
    have hx' : x ∈ [2 + 16 + 2 * i + 1] := hx
    rw [List.mem_singleton] at hx'
    subst hx'
    exact e
  · obtain ⟨x, hx, e⟩ := f _ (c 1 ⟨i, hi⟩)
    have hx' : x ∈ [26 + 16 + 2 * i + 1] := hx
    rw [List.mem_singleton] at hx'
    subst hx'
    exact e
theorem text_ef {b : Nat} {n : Int32} {R : cv_O → Prop} (hb : b = 2 ∨ b = 26) (hp2 : cw_at h 0 2 = some (cv_r b)) (hp3 : cw_at h 0 3 = some (cv_r (28 - b))) (f1 : ef_fok ec_TF h) (f2 : ef_rok ec_TR h) (a : cw_X X 109 (fun o => ef_fok ec_TF o.2 → ef_rok ec_TR o.2 → R o) 0 (cv_ent 0 [cv_r 0, cv_i n]) [] h) : cw_X X 109 R 0 (cv_ent 0 [cv_r 0, cv_i n]) [] h := by
  rcases hb with rfl | rfl
  · have c := ef_X ec_run (K := ec_X11_text_0) (List.mem_of_getElem? (i := 60) rfl) (show ef_zok [some [0], none] [cv_r 0, cv_i n] from ⟨ef_ok_some (by decide), ef_ok_none, trivial⟩) f1 f2 (fun t ht => by
      rcases List.mem_cons.mp (show t ∈ [((0 : Nat), (2 : Nat), [(2 : Nat)]), (0, 3, [26])] from ht) with rfl | ht
      · exact ⟨2, by decide, hp2⟩
      rcases List.mem_cons.mp ht with rfl | ht
      · exact ⟨26, by decide, hp3⟩
      · cases ht) a
    exact cw_X_imp c (fun o w => w.1 w.2.1 w.2.2.1)
  · have c := ef_X ec_run (K := ec_X11_text_1) (List.mem_of_getElem? (i := 109) rfl) (show ef_zok [some [0], none] [cv_r 0, cv_i n] from ⟨ef_ok_some (by decide), ef_ok_none, trivial⟩) f1 f2 (fun t ht => by
      rcases List.mem_cons.mp (show t ∈ [((0 : Nat), (2 : Nat), [(26 : Nat)]), (0, 3, [2])] from ht) with rfl | ht
      · exact ⟨26, by decide, hp2⟩
      rcases List.mem_cons.mp ht with rfl | ht
      · exact ⟨2, by decide, hp3⟩
      · cases ht) a
    exact cw_X_imp c (fun o w => w.1 w.2.1 w.2.2.1)
/-- what a text of the reference never writes -/
theorem tx_rest {G' : Int} (hT : cw_T Gn h) (hT' : cw_T G' h1) (hF : cw_Fr cw_Ds cw_sh mk_tx h h1) : (∀ k i, k < 111 → cw_at h1 k i = cw_at h k i) ∧ (∀ i, cw_at h1 112 i = cw_at h 112 i) ∧ (∀ i, ri_at h1 135 i = ri_at h 135 i) ∧ (∀ i, ri_at h1 148 i = ri_at h 148 i) ∧ ri_at h1 111 67 = ri_at h 111 67 :=
  ⟨lg_nc_e hT hT' hF (by decide +kernel), fun i => fr_same hT hT' hF (k := 112) (d := 51) rfl (by decide +kernel) i, fun i => ri_eq (fr_same hT hT' hF (k := 135) (d := 74) rfl (by decide +kernel) i), fun i => ri_eq (fr_same hT hT' hF (k := 148) (d := 87) rfl (by decide +kernel) i), ri_frf hF (k := 111) (d := 12) rfl rfl (by decide +kernel)⟩
theorem zT_eq1 {S : (Int × Nat) ⊕ (zSg × Int)} {x y : Int32} (a : zTc S x h1) (b : zTe S y h2) : x.toInt = y.toInt := by
  rcases S with ⟨f, p⟩ | ⟨s, k⟩
  · exact a.1.trans b.1.symm
  · exact a.1.trans b.1.symm
set_option maxHeartbeats 4000000 in
theorem zJ_c1 : zJ 109 188 1 true := by
  intro X Gn h as hX ha hT hP he
  match as, ha with
  | [n], _ =>
  have he0 := he
  obtain ⟨ta, no, p, q, go, ce, rq⟩ := he
  obtain ⟨hng, hnw, hnc⟩ := zGo_g go
  have ce0 := ce
  obtain ⟨⟨f1, f2, kC, r4, r5⟩, b, cp, cd⟩ := ce
  have hb := cp.1
  have hb4 := (zKi hb).1
  obtain ⟨sp, hsp⟩ : ∃ sp, 28 - b = sp := ⟨_, rfl⟩
  have hs : sp = 2 ∨ sp = 26 := by omega
  have hsb : 28 - sp = b := by omega
  have hs4 := (zKi hs).1
  have hp3 : cw_at h 0 3 = some (cv_r sp) := by rw [← hsp]; exact cp.2.2.1
  have pms : zPM sp h := by
    rcases hs with e | e
    · rw [e]; exact r4
    · rw [e]; exact r5
  refine zX_poI (K := kk_X11_text) hz_X11_text (k := 0) (d := 11) (as := [n]) rfl (by decide) rfl rfl hX hT hP ?_
  refine text_ef hb cp.2.1 cp.2.2.1 f1 f2 ?_
  refine ct_text4 (t := fun i => ri_at h 1 i % 256) hT n (fun _ => rfl) ta.2.2 (fun p _ q => zk5 q) hb4 hs4 cp.2.1 hp3 pms (hrp_TF f1 hs) f1 f2 kC (fun x ex cx g1 g2 po => ⟨x, h, rfl, hT, rfl, ?_⟩) (fun c0 c1 x h1 hT1 zc e01 zz g1 g2 po => ?_)
  · refine rt_text4 (t := fun i => ri_at h 1 i % 256) hX hT hP n (fun i hi => ta.2.1 i (by rw [ta.1]; exact hi)) hP.1 (fun p _ q => zk5 q) (fun y G2 h2 hT2 hP2 hF2 w => ?_)
    obtain ⟨z1, z2, z3, z4, z5⟩ := tx_rest hT hT2 hF2
    rcases w with ⟨b1, b2, b3, b4, b5, b6, b7, b8⟩ | ⟨b1, b2, -⟩
    · refine ⟨y, G2, h2, rfl, hT2, hP2, ⟨⟨?_, fun i hi => ?_, fun i hi => ?_⟩, ⟨?_, ?_⟩, p, q, go, zCE_r z1 hng ce0, zRp_f hng hnw hnc b7 (fun i u => b6 i (by rcases u with rfl | rfl | rfl | rfl <;> decide)) rq.1, zRq_f b8 z3 z4 (fun i u => by rcases u with rfl | rfl | rfl | rfl; exact b6 43 (by decide); exact b6 50 (by decide); exact b6 66 (by decide); exact z5) rq.2⟩, hF2.1 149 rfl, fun _ => Int32.toInt_inj.mp (by omega)⟩
      · rw [ri_eq (z1 0 1 (by decide)), b2]; exact ta.1
      · rw [ri_eq (z1 1 i (by decide)), ri_eq (z2 i)]
        exact ta.2.1 i (by rw [← ri_eq (z1 0 1 (by decide))]; exact hi)
      · rw [ri_eq (z1 52 i (by decide))]; exact ta.2.2 i hi
      · rw [ri_eq (z1 86 9 (by decide)), b6 52 (by decide)]; exact no.1
      · rw [ri_eq (z1 86 10 (by decide)), b6 53 (by decide)]; exact no.2
    · have := ta.1
      omega
  · have hP1 : cw_PP Gn h1 := po.2.1.2
    have hF1 : cw_Fr cw_Ds cw_sh kk_X11_text.2.2.2.2.2.1 h h1 := po.2.2.1
    have s1 := lg_nr_e hT hT1 hF1 (by decide +kernel)
    have rq1 : zRQ h1 p q := zRQ_c s1 rq
    have e111 : ri_at h1 111 1 = ri_at h 111 1 := ri_eq (s1 111 1 (by decide) (by decide))
    have pm2 : zPM 2 h1 := zPM_fr (.inl rfl) hF1 (by decide +kernel) r4
    have pm26 : zPM 26 h1 := zPM_fr (.inr rfl) hF1 (by decide +kernel) r5
    have w52 : ∀ i, i < 34 → ri_at h1 52 i = tz_wc.getD i 0 := fun i hi => (ri_frr hF1 (k := 52) (d := 43) rfl rfl (by decide +kernel)).trans (ta.2.2 i hi)
    refine ⟨x, h1, rfl, hT1, hF1.1 149 rfl, ?_⟩
    refine rt_text4 (t := fun i => ri_at h 1 i % 256) hX hT1 hP1 n (fun i hi => by rw [ri_eq (s1 112 i (by decide) (by decide))]; exact ta.2.1 i (by rw [ta.1, ← e111]; exact hi)) hP1.1 (fun p _ q => zk5 q) (fun y G2 h2 hT2 hP2 hF2 w => ?_)
    obtain ⟨z1, z2, z3, z4, z5⟩ := tx_rest hT1 hT2 hF2
    rcases w with ⟨b1, b2, -⟩ | ⟨b1, b2, b3, b4, b5, b6⟩
    · have := ta.1
      omega
    have exy : x = y := Int32.toInt_inj.mp (zT_eq1 zc b4)
    have ta2 : zTa h2 := by
      refine ⟨by rw [ri_eq (z1 0 1 (by decide)), e01, b3], fun i hi => ?_, fun i hi => by rw [ri_eq (z1 52 i (by decide))]; exact w52 i hi⟩
      rw [ri_eq (z1 0 1 (by decide)), e01] at hi
      omega
    revert zz b5 b6
    cases eS : ztx (fun i => ri_at h 1 i % 256) n.toInt.toNat 901 0 (0, (fun _ => 0), 0, [], [], []) 0 with
    | inl er =>
      intro zz b5 b6
      obtain ⟨t1, t2⟩ : zTF sp h h1 := zz
      obtain ⟨k1, k2⟩ : zFJ h1 h2 := b6
      have b5' : ∀ i, i ∈ ([12, 13, 14, 15, 43, 50, 52, 53, 66] : List Nat) → ri_at h2 111 i = ri_at h1 111 i := b5
      have ce1 : zCE h1 p q := ⟨⟨g1, g2, fun g hg => ⟨(t1 61 g (by decide) (by omega) (by decide) (by decide) (by decide) (by decide)).trans (kC g hg).1, (t1 62 g (by decide) (by omega) (by decide) (by decide) (by decide) (by decide)).trans (kC g hg).2⟩, pm2, pm26⟩, b, zCp_e (fun i u => t2 i (by omega)) (fun k i u v => t1 k i (by omega) (by omega) (by omega) (by omega) (by omega) (by omega)) hng cp, zCd_e (fun i u => t2 i (by omega)) (fun k i u v => t1 k i (by omega) (by omega) (by omega) (by omega) (by omega) (by omega)) (fun k i u v => t1 k i (by omega) (by omega) (by omega) (by omega) (by omega) (by omega)) hng cd⟩
      refine ⟨y, G2, h2, rfl, hT2, hP2, ⟨ta2, ⟨?_, ?_⟩, p, q, go, zCE_r z1 hng ce1, zRp_f hng hnw hnc k1 (fun i u => b5' i (by rcases u with rfl | rfl | rfl | rfl <;> decide)) rq1.1, zRq_f k2 z3 z4 (fun i u => by rcases u with rfl | rfl | rfl | rfl; exact b5' 43 (by decide); exact b5' 50 (by decide); exact b5' 66 (by decide); exact z5) rq1.2⟩, (hF2.1 149 rfl).trans (hF1.1 149 rfl), fun _ => exy⟩
      · rw [ri_eq (z1 86 9 (by decide)), b5' 52 (by decide), ri_eq (t1 86 9 (by decide) (by omega) (by decide) (by decide) (by decide) (by decide)), ri_eq (s1 111 52 (by decide) (by decide))]; exact no.1
      · rw [ri_eq (z1 86 10 (by decide)), b5' 53 (by decide), ri_eq (t1 86 10 (by decide) (by omega) (by decide) (by decide) (by decide) (by decide)), ri_eq (s1 111 53 (by decide) (by decide))]; exact no.2
    | inr w =>
      obtain ⟨s, kl⟩ := w
      intro zz b5 b6
      obtain ⟨d, hd⟩ : ∃ d, ztD (fun i => ri_at h 1 i % 256) n.toInt.toNat 901 (0, (fun _ => 0), 0, [], [], []) 0 zD0 = d := ⟨_, rfl⟩
      rw [hd] at zz b6
      obtain ⟨hm, tf, pmm, zs, zw, dr, ts⟩ : ∃ hm, zTF sp h hm ∧ zPM sp hm ∧ zSC sp hm s ∧ zWD sp hm s d ∧ zDR s d ∧ zTS hm h1 b sp (d.1 14) (d.1 15) s.2.2.2.2.2.length := zz
      obtain ⟨k1, k2, k3⟩ : zRW 0 h2 s d ∧ zSB h2 4 (fun g i => ri_at h2 119 (16 * g + i)) ∧ ∀ i : Nat, i < 4 → ri_at h2 117 i = s.2.1 (i : Int) := b6
      obtain ⟨⟨q15, ⟨q12, -⟩, ⟨q13, -⟩, ⟨q14, -⟩⟩, q43, q66, q52, q53, q50⟩ : zKs s h2 := b5
      obtain ⟨t1, t2, t3, t4, t5, t6, t7, t8, t9, t10, t11, t12⟩ := ts
      have em : ∀ k i, 1 ≤ k → k ≤ 54 → ri_at h1 k i = ri_at hm k i := fun k i u v => ri_eq (at_h (t1 k (by omega) (by omega) (by omega) (by omega) (by omega) (by omega)))
      have zs1 : zSC sp h1 s := zSC_e hs em zs
      have zw1 : zWD sp h1 s d := zWD_e hs (fun k i u v => em k i (by omega) (by omega)) zw
      have lt : ∀ l : Nat, l < 4 → s.2.1 (l : Int) = 1 ∨ s.2.1 (l : Int) = 0 := fun l hl => by
        rcases zs.2.1 l hl with c | c
        · exact .inl c.1
        · exact .inr c.1
      have kn := zs.2.2.1
      have wf : ∀ l : Nat, l < 4 → s.2.1 (l : Int) = 1 → zWf (zTl d l) := fun l hl => (zRL_T k1 dr kn.2.2.2 hl (lt l hl) (k3 l hl)).2
      have rd := zRD_T (e := fun g => ri_at h1 (sp + 16 + 2 * g) 15) k1 dr kn.2.2.2 lt k3 q12 q14
      have kh := zKH_T (e := fun g => ri_at h1 (sp + 16 + 2 * g) 15) zw1 zs1 dr wf (fun _ _ => rfl)
      obtain ⟨p1, hp1⟩ : ∃ p1 : zPp, p1 = (s, d, fun g => ri_at h1 (sp + 16 + 2 * g) 15) := ⟨_, rfl⟩
      have go1 : zGo p1 (0, zB0 p1, (0, (fun _ => 0), fun _ _ => 0), -1, fun _ _ => 0) := by
        subst hp1
        exact ⟨⟨dr, lt, wf, kn.2.2⟩, ⟨(by decide : (0 : Int) ≤ 0), (by decide : (0 : Int) ≤ 2000)⟩, fun g hg => zB0_G dr hg, ⟨(by decide : (0 : Nat) ≤ 20), fun i hi => absurd hi (Nat.not_lt_zero i)⟩, .inl rfl⟩
      have ng1 : zng p1 ≤ 4 := (zGo_g go1).1
      have hTd : ∀ g, g < 4 → ∀ j, j < 16 → ri_at hm (sp + 16 + 2 * g) j = zpT p1 g j := by
        subst hp1
        intro g hg j hj
        obtain ⟨⟨u1, u2⟩, u3⟩ := zw1.2.2.2.1 g hg
        rw [← em (sp + 16 + 2 * g) j (by omega) (by omega)]
        show _ = zTT d _ g j
        by_cases c15 : j = 15
        · subst c15; exact (if_pos rfl).symm
        rw [zTT_n c15]
        by_cases c14 : j = 14
        · subst c14; exact u3
        · exact u1 j (by omega)
      have gB : ∀ g, g < 4 → gB0 hm sp (d.1 14) (d.1 15) s.2.2.2.2.2.length g = zB0 p1 g := by
        intro g hg
        unfold gB0 zB0
        rw [gBg_c (hTd g hg), hTd g hg 14 (by decide)]
        subst hp1
        rfl
      have ce1 : zCE h1 p1 (0, zB0 p1, (0, (fun _ => 0), fun _ _ => 0), -1, fun _ _ => 0) := by
        refine ⟨⟨g1, g2, fun g hg => ⟨(at_h (t1 61 (by decide) (by decide) (by decide) (by decide) (by decide) (by omega))).trans ((tf.1 61 g (by decide) (by omega) (by decide) (by decide) (by decide) (by decide)).trans (kC g hg).1), (at_h (t1 62 (by decide) (by decide) (by decide) (by decide) (by decide) (by omega))).trans ((tf.1 62 g (by decide) (by omega) (by decide) (by decide) (by decide) (by decide)).trans (kC g hg).2)⟩, pm2, pm26⟩, sp, ?_, ?_⟩
        · refine ⟨hs, t3, by rw [hsb]; exact t4, ?_⟩
          subst hp1
          refine ⟨kh, zKS_T zw1 zs1, zs1.2.2.1.2.1, fun g hg j hj => (zw1.2.2.2.1 g (by omega)).1.2 j hj, fun c hc => ?_⟩
          have u := zw1.2.1.2 13 (by decide) c (by have := zw1.1.2.1; show c < (d.1 13).length; rw [this]; exact hc)
          rwa [Nat.zero_add] at u
        · obtain ⟨Bf, γc, υc, ιc, a1, a2, a3, -⟩ := cd
          refine ⟨Bf, zB0 p1, fun _ _ => 0, fun _ _ => 0, fun g hg => ?_, fun g hg => zEq_0, ⟨fun i hi => ⟨(at_h (t1 64 (by decide) (by decide) (by decide) (by decide) (by decide) (by omega))).trans ((tf.1 64 i (by decide) (by omega) (by decide) (by decide) (by decide) (by decide)).trans (a3.1 i hi).1), (a3.1 i hi).2⟩, a3.2⟩, ⟨t9, (by decide : (0 : Nat) ≤ 20), fun i hi => absurd hi (Nat.not_lt_zero i)⟩, fun i hi => absurd hi (Nat.not_lt_zero i), t5, t6, fun c => absurd rfl c⟩
          rw [← gB g (by omega)]
          exact t12 g (by omega)
      have rp1 : zRp h2 p1 := by
        subst hp1
        refine ⟨rd, zRS_T k1 q13, q15, fun g hg j hj => ?_, fun c hc => ?_⟩
        · have u := (k1.2.2.2.2.1 g hg).2 j hj
          rwa [show 36 * 0 + 9 * g + j = 9 * g + j from by omega] at u
        · have u := (k1.2.2.1 c hc).1
          rwa [show 18 * 0 + 3 * c = 3 * c from by omega] at u
      have rq2 : zRq h2 (zng p1) (0, zB0 p1, (0, (fun _ => 0), fun _ _ => 0), -1, fun _ _ => 0) := by
        refine ⟨fun g hg j hj => ?_, q43, ⟨q50, (by decide : (0 : Nat) ≤ 20), fun i hi => absurd hi (Nat.not_lt_zero i)⟩, .inl ⟨rfl, q66⟩⟩
        have u := k2 g (by omega) j (by omega)
        rw [u]
        have eT : ∀ i, i < 15 → ri_at h2 119 (16 * g + i) = zpT p1 g i := rp1.1.2.2.1 g hg
        have e1 : zBg (fun i => ri_at h2 119 (16 * g + i)) j = zBg (zpT p1 g) j := by
          unfold zBg
          dsimp only
          rw [eT 7 (by decide), eT 9 (by decide), eT 12 (by decide), eT 14 (by decide)]
        exact e1.trans (gBg_B hj)
      exact ⟨y, G2, h2, rfl, hT2, hP2, ⟨ta2, ⟨by rw [ri_eq (z1 86 9 (by decide)), t10, q52], by rw [ri_eq (z1 86 10 (by decide)), t11, q53]⟩, p1, _, go1, zCE_r z1 ng1 ce1, rp1, rq2⟩, (hF2.1 149 rfl).trans (hF1.1 149 rfl), fun _ => exy⟩
end JT
end
