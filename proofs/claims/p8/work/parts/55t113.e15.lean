/-! ===== a text: both sides ===== -/
section JT
variable {X : cv_X} {Gn : Int} {h h1 h2 : cv_H} {p : zPp} {q : zQs}
/-- the lower halves of the reference's rows hold all that is kept -/
theorem zRL_f {l : Nat} (hl : l < 4) {o : Option (List Int)} (k : zFK h h1) (a : zRL h l o) : zRL h1 l o := by
  cases o with
  | none => exact (k 117 l (by show l < 4; exact hl)).trans a
  | some cs =>
    obtain ⟨c1, c2, x, c3, c4, c5, c6⟩ := a
    refine ⟨(k 117 l (by show l < 4; exact hl)).trans c1, c2, x, (k 115 l (by show l < 4; exact hl)).trans c3, (k 116 l (by show l < 4; exact hl)).trans c4, c5, zKN_mv c6 (fun j hj => ⟨k 125 _ (by show 0 + (x + j) < 64; omega), k 126 _ (by show 0 + (x + j) < 64; omega), k 127 _ (by show 0 + (x + j) < 64; omega)⟩)⟩
theorem zRp_f (hng : zng p ≤ 4) (hnw : znw p ≤ 6) (hnc : znc p ≤ 6) (k : zFK h h1) (e : ∀ i, i = 12 ∨ i = 13 ∨ i = 14 ∨ i = 15 → ri_at h1 111 i = ri_at h 111 i) (a : zRp h p) : zRp h1 p := by
  obtain ⟨⟨d1, d2, d3, d4, d5, d6, d7⟩, ⟨s1, s2⟩, a3, a4, a5⟩ := a
  exact ⟨⟨(e 12 (by omega)).trans d1, (e 14 (by omega)).trans d2, fun g hg j hj => (k 119 _ (by show 16 * g + j < 64; omega)).trans (d3 g hg j hj), fun j hj => (k 114 j (by show j < 12; exact hj)).trans (d4 j hj), fun l hl => zRL_f hl k (d5 l hl), fun c hc => (k 124 _ (by show 3 * c + 1 < 18; omega)).trans (d6 c hc), fun c hc => (k 124 _ (by show 3 * c + 2 < 18; omega)).trans (d7 c hc)⟩, ⟨(e 13 (by omega)).trans s1, fun w hw => ⟨(k 122 _ (by show 3 * w < 18; omega)).trans (s2 w hw).1, (k 122 _ (by show 3 * w + 1 < 18; omega)).trans (s2 w hw).2.1, (k 122 _ (by show 3 * w + 2 < 18; omega)).trans (s2 w hw).2.2⟩⟩, (e 15 (by omega)).trans a3, fun g hg j hj => (k 120 _ (by show 9 * g + j < 36; omega)).trans (a4 g hg j hj), fun c hc => (k 124 _ (by show 3 * c < 18; omega)).trans (a5 c hc)⟩
theorem zRq_f {ng : Nat} (e1 : ∀ i, ri_at h1 130 i = ri_at h 130 i) (e2 : ∀ i, ri_at h1 135 i = ri_at h 135 i) (e3 : ∀ i, ri_at h1 148 i = ri_at h 148 i) (e0 : ∀ i, i = 43 ∨ i = 50 ∨ i = 66 ∨ i = 67 → ri_at h1 111 i = ri_at h 111 i) (a : zRq h ng q) : zRq h1 ng q := by
  obtain ⟨a1, a2, ⟨u1, u2, u3⟩, a4⟩ := a
  refine ⟨fun g hg j hj => (e1 _).trans (a1 g hg j hj), (e0 43 (by omega)).trans a2, ⟨(e0 50 (by omega)).trans u1, u2, fun i hi => ⟨(e2 _).trans (u3 i hi).1, fun j hj => (e2 _).trans ((u3 i hi).2 j hj)⟩⟩, ?_⟩
  rcases a4 with ⟨c1, c2⟩ | ⟨c1, c2, c3, c4⟩
  · exact .inl ⟨c1, (e0 66 (by omega)).trans c2⟩
  · exact .inr ⟨c1, (e0 66 (by omega)).trans c2, (e0 67 (by omega)).trans c3, fun g hg j hj => (e3 _).trans (c4 g hg j hj)⟩
theorem gBg_c {T T' : Nat → Int} {m0 m1 m2 : Int} (e : ∀ j, j < 16 → T j = T' j) : gBegin T m0 m1 m2 = gBegin T' m0 m1 m2 := by
  unfold gBegin
  rw [e 7 (by decide), e 9 (by decide), e 12 (by decide), e 14 (by decide), e 5 (by decide), e 6 (by decide)]
/-- gates begun, of a plan told -/
def zB0 (p : zPp) (g : Nat) : Nat → Int := gBegin (zpT p g) (zMs (p.2.1.1 14) (p.2.1.1 15) (zpT p g 14).toNat 0 (znc p)) (zMs (p.2.1.1 14) (p.2.1.1 15) (zpT p g 14).toNat 1 (znc p)) (zMs (p.2.1.1 14) (p.2.1.1 15) (zpT p g 14).toNat 2 (znc p))
theorem zB0_G (r : zDR p.1 p.2.1) {g : Nat} (hg : g < zng p) : zGd p (zB0 p g) := by
  have P := zPD_T (e := p.2.2) r
  have rT := P.2.2.1 g hg
  have hv := P.2.2.2.2.1
  have n6 : znc p ≤ 6 := P.2.1
  have b := fun k => zMs_b (dk := p.2.1.1 14) (dv := p.2.1.1 15) (S := (zpT p g 14).toNat) (kind := k) hv (znc p)
  refine ⟨gBg_G rT ?_ ?_ ?_, gBg_C, zTk_B ?_ rT.2.2.2.2.2.2.2.2.2.2.2.1.2⟩
  · have := b 0; omega
  · have := b 1; omega
  · have := b 2; omega
  · exact rT.2.2.2.2.2.2.1
theorem hrp_TF (f : ef_fok ec_TF h) {sp : Nat} (hs : sp = 2 ∨ sp = 26) : ∀ i, i < 4 → cw_at h (sp + 16 + 2 * i) 16 = some (cv_r (sp + 16 + 2 * i + 1)) := by
  intro i hi
  have c : ∀ s : Fin 2, ∀ i : Fin 4, (((bif s.1 == 0 then 2 else 26) + 16 + 2 * i.1, 16, [(bif s.1 == 0 then 2 else 26) + 16 + 2 * i.1 + 1]) : Nat × Nat × List Nat) ∈ ec_TF := by decide
  rcases hs with rfl | rfl
  · obtain ⟨x, hx, e⟩ := f _ (c 0 ⟨i, hi⟩)
    have hx' : x ∈ [2 + 16 + 2 * i + 1] := hx
    rw [List.mem_singleton] at hx'
    subst hx'
    exact e
  · obtain ⟨x, hx, e⟩ := f _ (c 1 ⟨i, hi⟩)
    have hx' : x ∈ [26 + 16 + 2 * i + 1] := hx
    rw [List.mem_singleton] at hx'
    subst hx'
    exact e
theorem text_ef {b : Nat} {n : Int32} {R : cv_O → Prop} (hb : b = 2 ∨ b = 26) (hp2 : cw_at h 0 2 = some (cv_r b)) (hp3 : cw_at h 0 3 = some (cv_r (28 - b))) (f1 : ef_fok ec_TF h) (f2 : ef_rok ec_TR h) (a : cw_X X 109 (fun o => ef_fok ec_TF o.2 → ef_rok ec_TR o.2 → R o) 0 (cv_ent 0 [cv_r 0, cv_i n]) [] h) : cw_X X 109 R 0 (cv_ent 0 [cv_r 0, cv_i n]) [] h := by
  rcases hb with rfl | rfl
  · have c := ef_X ec_run (K := ec_X11_text_0) (List.mem_of_getElem? (i := 60) rfl) (show ef_zok [some [0], none] [cv_r 0, cv_i n] from ⟨ef_ok_some (by decide), ef_ok_none, trivial⟩) f1 f2 (fun t ht => by
      rcases List.mem_cons.mp (show t ∈ [((0 : Nat), (2 : Nat), [(2 : Nat)]), (0, 3, [26])] from ht) with rfl | ht
      · exact ⟨2, by decide, hp2⟩
      rcases List.mem_cons.mp ht with rfl | ht
      · exact ⟨26, by decide, hp3⟩
      · cases ht) a
    exact cw_X_imp c (fun o w => w.1 w.2.1 w.2.2.1)
  · have c := ef_X ec_run (K := ec_X11_text_1) (List.mem_of_getElem? (i := 109) rfl) (show ef_zok [some [0], none] [cv_r 0, cv_i n] from ⟨ef_ok_some (by decide), ef_ok_none, trivial⟩) f1 f2 (fun t ht => by
      rcases List.mem_cons.mp (show t ∈ [((0 : Nat), (2 : Nat), [(26 : Nat)]), (0, 3, [2])] from ht) with rfl | ht
      · exact ⟨26, by decide, hp2⟩
      rcases List.mem_cons.mp ht with rfl | ht
      · exact ⟨2, by decide, hp3⟩
      · cases ht) a
    exact cw_X_imp c (fun o w => w.1 w.2.1 w.2.2.1)
/-- what a text of the reference never writes -/
theorem tx_rest {G' : Int} (hT : cw_T Gn h) (hT' : cw_T G' h1) (hF : cw_Fr cw_Ds cw_sh mk_tx h h1) : (∀ k i, k < 111 → cw_at h1 k i = cw_at h k i) ∧ (∀ i, cw_at h1 112 i = cw_at h 112 i) ∧ (∀ i, ri_at h1 135 i = ri_at h 135 i) ∧ (∀ i, ri_at h1 148 i = ri_at h 148 i) ∧ ri_at h1 111 67 = ri_at h 111 67 :=
  ⟨lg_nc_e hT hT' hF (by decide +kernel), fun i => fr_same hT hT' hF (k := 112) (d := 51) rfl (by decide +kernel) i, fun i => ri_eq (fr_same hT hT' hF (k := 135) (d := 74) rfl (by decide +kernel) i), fun i => ri_eq (fr_same hT hT' hF (k := 148) (d := 87) rfl (by decide +kernel) i), ri_frf hF (k := 111) (d := 12) rfl rfl (by decide +kernel)⟩
theorem zT_eq1 {S : (Int × Nat) ⊕ (zSg × Int)} {x y : Int32} (a : zTc S x h1) (b : zTe S y h2) : x.toInt = y.toInt := by
  rcases S with ⟨f, p⟩ | ⟨s, k⟩
  · exact a.1.trans b.1.symm
  · exact a.1.trans b.1.symm
set_option maxHeartbeats 4000000 in
theorem zJ_c1 : zJ 109 188 1 true := by
  intro X Gn h as hX ha hT hP he
  match as, ha with
  | [n], _ =>
  have he0 := he
  obtain ⟨ta, no, p, q, go, ce, rq⟩ := he
  obtain ⟨hng, hnw, hnc⟩ := zGo_g go
  have ce0 := ce
  obtain ⟨⟨f1, f2, kC, r4, r5⟩, b, cp, cd⟩ := ce
  have hb := cp.1
  have hb4 := (zKi hb).1
  obtain ⟨sp, hsp⟩ : ∃ sp, 28 - b = sp := ⟨_, rfl⟩
  have hs : sp = 2 ∨ sp = 26 := by omega
  have hsb : 28 - sp = b := by omega
  have hs4 := (zKi hs).1
  have hp3 : cw_at h 0 3 = some (cv_r sp) := by rw [← hsp]; exact cp.2.2.1
  have pms : zPM sp h := by
    rcases hs with e | e
    · rw [e]; exact r4
    · rw [e]; exact r5
  refine zX_poI (K := kk_X11_text) hz_X11_text (k := 0) (d := 11) (as := [n]) rfl (by decide) rfl rfl hX hT hP ?_
  refine text_ef hb cp.2.1 cp.2.2.1 f1 f2 ?_
  refine ct_text4 (t := fun i => ri_at h 1 i % 256) hT n (fun _ => rfl) ta.2.2 (fun p _ q => zk5 q) hb4 hs4 cp.2.1 hp3 pms (hrp_TF f1 hs) f1 f2 kC (fun x ex cx g1 g2 po => ⟨x, h, rfl, hT, rfl, ?_⟩) (fun c0 c1 x h1 hT1 zc e01 zz g1 g2 po => ?_)
  · refine rt_text4 (t := fun i => ri_at h 1 i % 256) hX hT hP n (fun i hi => ta.2.1 i (by rw [ta.1]; exact hi)) hP.1 (fun p _ q => zk5 q) (fun y G2 h2 hT2 hP2 hF2 w => ?_)
    obtain ⟨z1, z2, z3, z4, z5⟩ := tx_rest hT hT2 hF2
    rcases w with ⟨b1, b2, b3, b4, b5, b6, b7, b8⟩ | ⟨b1, b2, -⟩
    · refine ⟨y, G2, h2, rfl, hT2, hP2, ⟨⟨?_, fun i hi => ?_, fun i hi => ?_⟩, ⟨?_, ?_⟩, p, q, go, zCE_r z1 hng ce0, zRp_f hng hnw hnc b7 (fun i u => b6 i (by rcases u with rfl | rfl | rfl | rfl <;> decide)) rq.1, zRq_f b8 z3 z4 (fun i u => by rcases u with rfl | rfl | rfl | rfl; exact b6 43 (by decide); exact b6 50 (by decide); exact b6 66 (by decide); exact z5) rq.2⟩, hF2.1 149 rfl, fun _ => Int32.toInt_inj.mp (by omega)⟩
      · rw [ri_eq (z1 0 1 (by decide)), b2]; exact ta.1
      · rw [ri_eq (z1 1 i (by decide)), ri_eq (z2 i)]
        exact ta.2.1 i (by rw [← ri_eq (z1 0 1 (by decide))]; exact hi)
      · rw [ri_eq (z1 52 i (by decide))]; exact ta.2.2 i hi
      · rw [ri_eq (z1 86 9 (by decide)), b6 52 (by decide)]; exact no.1
      · rw [ri_eq (z1 86 10 (by decide)), b6 53 (by decide)]; exact no.2
    · have := ta.1
      omega
  · have hP1 : cw_PP Gn h1 := po.2.1.2
    have hF1 : cw_Fr cw_Ds cw_sh kk_X11_text.2.2.2.2.2.1 h h1 := po.2.2.1
    have s1 := lg_nr_e hT hT1 hF1 (by decide +kernel)
    have rq1 : zRQ h1 p q := zRQ_c s1 rq
    have e111 : ri_at h1 111 1 = ri_at h 111 1 := ri_eq (s1 111 1 (by decide) (by decide))
    have pm2 : zPM 2 h1 := zPM_fr (.inl rfl) hF1 (by decide +kernel) r4
    have pm26 : zPM 26 h1 := zPM_fr (.inr rfl) hF1 (by decide +kernel) r5
    have w52 : ∀ i, i < 34 → ri_at h1 52 i = tz_wc.getD i 0 := fun i hi => (ri_frr hF1 (k := 52) (d := 43) rfl rfl (by decide +kernel)).trans (ta.2.2 i hi)
    refine ⟨x, h1, rfl, hT1, hF1.1 149 rfl, ?_⟩
    refine rt_text4 (t := fun i => ri_at h 1 i % 256) hX hT1 hP1 n (fun i hi => by rw [ri_eq (s1 112 i (by decide) (by decide))]; exact ta.2.1 i (by rw [ta.1, ← e111]; exact hi)) hP1.1 (fun p _ q => zk5 q) (fun y G2 h2 hT2 hP2 hF2 w => ?_)
    obtain ⟨z1, z2, z3, z4, z5⟩ := tx_rest hT1 hT2 hF2
    rcases w with ⟨b1, b2, -⟩ | ⟨b1, b2, b3, b4, b5, b6⟩
    · have := ta.1
      omega
    have exy : x = y := Int32.toInt_inj.mp (zT_eq1 zc b4)
    have ta2 : zTa h2 := by
      refine ⟨by rw [ri_eq (z1 0 1 (by decide)), e01, b3], fun i hi => ?_, fun i hi => by rw [ri_eq (z1 52 i (by decide))]; exact w52 i hi⟩
      rw [ri_eq (z1 0 1 (by decide)), e01] at hi
      omega
    revert zz b5 b6
    cases eS : ztx (fun i => ri_at h 1 i % 256) n.toInt.toNat 901 0 (0, (fun _ => 0), 0, [], [], []) 0 with
    | inl er =>
      intro zz b5 b6
      obtain ⟨t1, t2⟩ : zTF sp h h1 := zz
      obtain ⟨k1, k2⟩ : zFJ h1 h2 := b6
      have b5' : ∀ i, i ∈ ([12, 13, 14, 15, 43, 50, 52, 53, 66] : List Nat) → ri_at h2 111 i = ri_at h1 111 i := b5
      have ce1 : zCE h1 p q := ⟨⟨g1, g2, fun g hg => ⟨(t1 61 g (by decide) (by omega) (by decide) (by decide) (by decide) (by decide)).trans (kC g hg).1, (t1 62 g (by decide) (by omega) (by decide) (by decide) (by decide) (by decide)).trans (kC g hg).2⟩, pm2, pm26⟩, b, zCp_e (fun i u => t2 i (by omega)) (fun k i u v => t1 k i (by omega) (by omega) (by omega) (by omega) (by omega) (by omega)) hng cp, zCd_e (fun i u => t2 i (by omega)) (fun k i u v => t1 k i (by omega) (by omega) (by omega) (by omega) (by omega) (by omega)) (fun k i u v => t1 k i (by omega) (by omega) (by omega) (by omega) (by omega) (by omega)) hng cd⟩
      refine ⟨y, G2, h2, rfl, hT2, hP2, ⟨ta2, ⟨?_, ?_⟩, p, q, go, zCE_r z1 hng ce1, zRp_f hng hnw hnc k1 (fun i u => b5' i (by rcases u with rfl | rfl | rfl | rfl <;> decide)) rq1.1, zRq_f k2 z3 z4 (fun i u => by rcases u with rfl | rfl | rfl | rfl; exact b5' 43 (by decide); exact b5' 50 (by decide); exact b5' 66 (by decide); exact z5) rq1.2⟩, (hF2.1 149 rfl).trans (hF1.1 149 rfl), fun _ => exy⟩
      · rw [ri_eq (z1 86 9 (by decide)), b5' 52 (by decide), ri_eq (t1 86 9 (by decide) (by omega) (by decide) (by decide) (by decide) (by decide)), ri_eq (s1 111 52 (by decide) (by decide))]; exact no.1
      · rw [ri_eq (z1 86 10 (by decide)), b5' 53 (by decide), ri_eq (t1 86 10 (by decide) (by omega) (by decide) (by decide) (by decide) (by decide)), ri_eq (s1 111 53 (by decide) (by decide))]; exact no.2
    | inr w =>
      obtain ⟨s, kl⟩ := w
      intro zz b5 b6
      obtain ⟨d, hd⟩ : ∃ d, ztD (fun i => ri_at h 1 i % 256) n.toInt.toNat 901 (0, (fun _ => 0), 0, [], [], []) 0 zD0 = d := ⟨_, rfl⟩
      rw [hd] at zz b6
      obtain ⟨hm, tf, pmm, zs, zw, dr, ts⟩ : ∃ hm, zTF sp h hm ∧ zPM sp hm ∧ zSC sp hm s ∧ zWD sp hm s d ∧ zDR s d ∧ zTS hm h1 b sp (d.1 14) (d.1 15) s.2.2.2.2.2.length := zz
      obtain ⟨k1, k2, k3⟩ : zRW 0 h2 s d ∧ zSB h2 4 (fun g i => ri_at h2 119 (16 * g + i)) ∧ ∀ i : Nat, i < 4 → ri_at h2 117 i = s.2.1 (i : Int) := b6
      obtain ⟨⟨q15, ⟨q12, -⟩, ⟨q13, -⟩, ⟨q14, -⟩⟩, q43, q66, q52, q53, q50⟩ : zKs s h2 := b5
      obtain ⟨t1, t2, t3, t4, t5, t6, t7, t8, t9, t10, t11, t12⟩ := ts
      have em : ∀ k i, 1 ≤ k → k ≤ 54 → ri_at h1 k i = ri_at hm k i := fun k i u v => ri_eq (at_h (t1 k (by omega) (by omega) (by omega) (by omega) (by omega) (by omega)))
      have zs1 : zSC sp h1 s := zSC_e hs em zs
      have zw1 : zWD sp h1 s d := zWD_e hs (fun k i u v => em k i (by omega) (by omega)) zw
      have lt : ∀ l : Nat, l < 4 → s.2.1 (l : Int) = 1 ∨ s.2.1 (l : Int) = 0 := fun l hl => by
        rcases zs.2.1 l hl with c | c
        · exact .inl c.1
        · exact .inr c.1
      have kn := zs.2.2.1
      have wf : ∀ l : Nat, l < 4 → s.2.1 (l : Int) = 1 → zWf (zTl d l) := fun l hl => (zRL_T k1 dr kn.2.2.2 hl (lt l hl) (k3 l hl)).2
      have rd := zRD_T (e := fun g => ri_at h1 (sp + 16 + 2 * g) 15) k1 dr kn.2.2.2 lt k3 q12 q14
      have kh := zKH_T (e := fun g => ri_at h1 (sp + 16 + 2 * g) 15) zw1 zs1 dr wf (fun _ _ => rfl)
      obtain ⟨p1, hp1⟩ : ∃ p1 : zPp, p1 = (s, d, fun g => ri_at h1 (sp + 16 + 2 * g) 15) := ⟨_, rfl⟩
      have go1 : zGo p1 (0, zB0 p1, (0, (fun _ => 0), fun _ _ => 0), -1, fun _ _ => 0) := by
        subst hp1
        exact ⟨⟨dr, lt, wf, kn.2.2⟩, ⟨(by decide : (0 : Int) ≤ 0), (by decide : (0 : Int) ≤ 2000)⟩, fun g hg => zB0_G dr hg, ⟨(by decide : (0 : Nat) ≤ 20), fun i hi => absurd hi (Nat.not_lt_zero i)⟩, .inl rfl⟩
      have ng1 : zng p1 ≤ 4 := (zGo_g go1).1
      have hTd : ∀ g, g < 4 → ∀ j, j < 16 → ri_at hm (sp + 16 + 2 * g) j = zpT p1 g j := by
        subst hp1
        intro g hg j hj
        obtain ⟨⟨u1, u2⟩, u3⟩ := zw1.2.2.2.1 g hg
        rw [← em (sp + 16 + 2 * g) j (by omega) (by omega)]
        show _ = zTT d _ g j
        by_cases c15 : j = 15
        · subst c15; exact (if_pos rfl).symm
        rw [zTT_n c15]
        by_cases c14 : j = 14
        · subst c14; exact u3
        · exact u1 j (by omega)
      have gB : ∀ g, g < 4 → gB0 hm sp (d.1 14) (d.1 15) s.2.2.2.2.2.length g = zB0 p1 g := by
        intro g hg
        unfold gB0 zB0
        rw [gBg_c (hTd g hg), hTd g hg 14 (by decide)]
        subst hp1
        rfl
      have ce1 : zCE h1 p1 (0, zB0 p1, (0, (fun _ => 0), fun _ _ => 0), -1, fun _ _ => 0) := by
        refine ⟨⟨g1, g2, fun g hg => ⟨(at_h (t1 61 (by decide) (by decide) (by decide) (by decide) (by decide) (by omega))).trans ((tf.1 61 g (by decide) (by omega) (by decide) (by decide) (by decide) (by decide)).trans (kC g hg).1), (at_h (t1 62 (by decide) (by decide) (by decide) (by decide) (by decide) (by omega))).trans ((tf.1 62 g (by decide) (by omega) (by decide) (by decide) (by decide) (by decide)).trans (kC g hg).2)⟩, pm2, pm26⟩, sp, ?_, ?_⟩
        · refine ⟨hs, t3, by rw [hsb]; exact t4, ?_⟩
          subst hp1
          refine ⟨kh, zKS_T zw1 zs1, zs1.2.2.1.2.1, fun g hg j hj => (zw1.2.2.2.1 g (by omega)).1.2 j hj, fun c hc => ?_⟩
          have u := zw1.2.1.2 13 (by decide) c (by have := zw1.1.2.1; show c < (d.1 13).length; rw [this]; exact hc)
          rwa [Nat.zero_add] at u
        · obtain ⟨Bf, γc, υc, ιc, a1, a2, a3, -⟩ := cd
          refine ⟨Bf, zB0 p1, fun _ _ => 0, fun _ _ => 0, fun g hg => ?_, fun g hg => zEq_0, ⟨fun i hi => ⟨(at_h (t1 64 (by decide) (by decide) (by decide) (by decide) (by decide) (by omega))).trans ((tf.1 64 i (by decide) (by omega) (by decide) (by decide) (by decide) (by decide)).trans (a3.1 i hi).1), (a3.1 i hi).2⟩, a3.2⟩, ⟨t9, (by decide : (0 : Nat) ≤ 20), fun i hi => absurd hi (Nat.not_lt_zero i)⟩, fun i hi => absurd hi (Nat.not_lt_zero i), t5, t6, fun c => absurd rfl c⟩
          rw [← gB g (by omega)]
          exact t12 g (by omega)
      have rp1 : zRp h2 p1 := by
        subst hp1
        refine ⟨rd, zRS_T k1 q13, q15, fun g hg j hj => ?_, fun c hc => ?_⟩
        · have u := (k1.2.2.2.2.1 g hg).2 j hj
          rwa [show 36 * 0 + 9 * g + j = 9 * g + j from by omega] at u
        · have u := (k1.2.2.1 c hc).1
          rwa [show 18 * 0 + 3 * c = 3 * c from by omega] at u
      have rq2 : zRq h2 (zng p1) (0, zB0 p1, (0, (fun _ => 0), fun _ _ => 0), -1, fun _ _ => 0) := by
        refine ⟨fun g hg j hj => ?_, q43, ⟨q50, (by decide : (0 : Nat) ≤ 20), fun i hi => absurd hi (Nat.not_lt_zero i)⟩, .inl ⟨rfl, q66⟩⟩
        have u := k2 g (by omega) j (by omega)
        rw [u]
        have eT : ∀ i, i < 15 → ri_at h2 119 (16 * g + i) = zpT p1 g i := rp1.1.2.2.1 g hg
        have e1 : zBg (fun i => ri_at h2 119 (16 * g + i)) j = zBg (zpT p1 g) j := by
          unfold zBg
          dsimp only
          rw [eT 7 (by decide), eT 9 (by decide), eT 12 (by decide), eT 14 (by decide)]
        exact e1.trans (gBg_B hj)
      exact ⟨y, G2, h2, rfl, hT2, hP2, ⟨ta2, ⟨by rw [ri_eq (z1 86 9 (by decide)), t10, q52], by rw [ri_eq (z1 86 10 (by decide)), t11, q53]⟩, p1, _, go1, zCE_r z1 ng1 ce1, rp1, rq2⟩, (hF2.1 149 rfl).trans (hF1.1 149 rfl), fun _ => exy⟩
end JT
