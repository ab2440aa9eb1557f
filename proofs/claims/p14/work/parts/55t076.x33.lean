/-! ===== what an empty plan tells, the class ===== -/
def z16 : List Int := [24, 24, 20, 6, 18, 0, 0, 36, 8, 0, 1000, 1000, 0, 3000, 0, 0]
section TZ
variable {G : Int} {X : cv_X} {Q : cv_O → Prop} {t : Nat → Int}
theorem tc_lp {h0 : cv_H} {K : Nat} (hK7 : cw_sh[K]? = some 7) (hK44 : cw_sh[K + 1]? = some 44) (hKr : cw_at h0 K 16 = some (cv_r (K + 1))) (kk : ∀ h', cw_T G h' → cw_Fr cw_Ds cw_sh kk_X7_clear.2.2.2.2.2.1 h0 h' → zOK K h0 h' → (∀ j, j < 16 → ri_at h' K j = z16.getD j 0) → (∀ j, j < 9 → ri_at h' (K + 1) j = 0) → Q (none, h')) :
    ∀ (u i : Nat) (L : cv_L) (I : Int32) (h : cv_H), i + u = 9 → cw_T G h → cw_Fr cw_Ds cw_sh kk_X7_clear.2.2.2.2.2.1 h0 h → zOK K h0 h → (∀ j, j < 16 → ri_at h K j = z16.getD j 0) → (∀ j, j < i → ri_at h (K + 1) j = 0) → I.toInt = i → cv_get L 0 = some (cv_r K) → cv_get L 1 = some (cv_i I) → cw_X X 86 Q 83 L [] h := by
  have hKR : ∀ h, cw_Fr cw_Ds cw_sh kk_X7_clear.2.2.2.2.2.1 h0 h → cw_at h K 16 = some (cv_r (K + 1)) := fun h F => (F.2 K 7 16 hK7 (by decide +kernel)).trans hKr
  intro u
  induction u with
  | zero =>
    intro i L I h hiu hT Fh hOK hD hr hI g0 g1
    refine ex_il oq_X7_clear_83 g1 ?_
    refine ex_al oq_X7_clear_84 g0 ?_
    refine ex_gf oq_X7_clear_85 hT (k := K) (d := 7) hK7 rfl ((hKR _ Fh)) ?_
    refine ex_len oq_X7_clear_88 hT (k := (K + 1)) (d := 44) hK44 rfl (by decide) (fun x101 hx101 => ?_)
    refine ex_if oq_X7_clear_89 (t := 105) rfl rfl (fun (c102 : x101.toInt ≤ I.toInt) => ?_) (fun (c102 : ¬ (x101.toInt ≤ I.toInt)) => ?_)
    · exact ex_retv oq_X7_clear_105 rfl (kk h hT Fh hOK (fun j hj => match j, hj with | 0, _ => (rfl).trans (hD 0 (by decide)) | 1, _ => (rfl).trans (hD 1 (by decide)) | 2, _ => (rfl).trans (hD 2 (by decide)) | 3, _ => (rfl).trans (hD 3 (by decide)) | 4, _ => (rfl).trans (hD 4 (by decide)) | 5, _ => (rfl).trans (hD 5 (by decide)) | 6, _ => (rfl).trans (hD 6 (by decide)) | 7, _ => (rfl).trans (hD 7 (by decide)) | 8, _ => (rfl).trans (hD 8 (by decide)) | 9, _ => (rfl).trans (hD 9 (by decide)) | 10, _ => (rfl).trans (hD 10 (by decide)) | 11, _ => (rfl).trans (hD 11 (by decide)) | 12, _ => (rfl).trans (hD 12 (by decide)) | 13, _ => (rfl).trans (hD 13 (by decide)) | 14, _ => (rfl).trans (hD 14 (by decide)) | 15, _ => (rfl).trans (hD 15 (by decide)) | j + 16, hj => absurd hj (by omega)) (fun j hj => hr j (by omega)))
    · exfalso; omega
  | succ u ih =>
    intro i L I h hiu hT Fh hOK hD hr hI g0 g1
    refine ex_il oq_X7_clear_83 g1 ?_
    refine ex_al oq_X7_clear_84 g0 ?_
    refine ex_gf oq_X7_clear_85 hT (k := K) (d := 7) hK7 rfl ((hKR _ Fh)) ?_
    refine ex_len oq_X7_clear_88 hT (k := (K + 1)) (d := 44) hK44 rfl (by decide) (fun x101 hx101 => ?_)
    refine ex_if oq_X7_clear_89 (t := 105) rfl rfl (fun (c102 : x101.toInt ≤ I.toInt) => ?_) (fun (c102 : ¬ (x101.toInt ≤ I.toInt)) => ?_)
    · exfalso; omega
    · refine ex_al oq_X7_clear_92 g0 ?_
      refine ex_gf oq_X7_clear_93 hT (k := K) (d := 7) hK7 rfl ((hKR _ Fh)) ?_
      refine ex_il oq_X7_clear_96 g1 ?_
      refine ex_ic oq_X7_clear_97 (m := 0) (by decide) (fun x103 hx103 => ?_)
      refine ex_iw1 oq_X7_clear_98 hT (k := (K + 1)) (d := 44) (j := i) hK44 rfl (by omega) (by omega) ⟨(cw_i32 _).1, (cw_i32 _).2⟩ (fun h104 Th104 wh104 => ?_)
      have Fh104 : cw_Fr cw_Ds cw_sh kk_X7_clear.2.2.2.2.2.1 h0 h104 := cw_Fr_tr Fh (cw_Fr_wrr wh104 (k := (K + 1)) (d := 44) hK44 rfl (by decide +kernel))
      have Wh104 := zOK_R wh104 hK44 hOK
      refine ex_incA oq_X7_clear_99 (v := I) (m := 1) g1 (by decide) (by omega) (fun L106 x105 hx105 gL106_1 kL106 => ?_)
      have gL106_0 : cv_get L106 0 = some (cv_r K) := kL106 0 _ (by decide) (fun _ => rfl) g0
      refine ex_go oq_X7_clear_102 (t := 83) rfl rfl ?_
      exact ih (i + 1) L106 x105 h104 (by omega) Th104 Fh104 Wh104 (fun j hj => match j, hj with | 0, _ => ((ri_ne wh104 (.inl (cw_kne (k := K) (d := 7) (k' := (K + 1)) (d' := 44) hK7 hK44 (by decide))))).trans (hD 0 (by decide)) | 1, _ => ((ri_ne wh104 (.inl (cw_kne (k := K) (d := 7) (k' := (K + 1)) (d' := 44) hK7 hK44 (by decide))))).trans (hD 1 (by decide)) | 2, _ => ((ri_ne wh104 (.inl (cw_kne (k := K) (d := 7) (k' := (K + 1)) (d' := 44) hK7 hK44 (by decide))))).trans (hD 2 (by decide)) | 3, _ => ((ri_ne wh104 (.inl (cw_kne (k := K) (d := 7) (k' := (K + 1)) (d' := 44) hK7 hK44 (by decide))))).trans (hD 3 (by decide)) | 4, _ => ((ri_ne wh104 (.inl (cw_kne (k := K) (d := 7) (k' := (K + 1)) (d' := 44) hK7 hK44 (by decide))))).trans (hD 4 (by decide)) | 5, _ => ((ri_ne wh104 (.inl (cw_kne (k := K) (d := 7) (k' := (K + 1)) (d' := 44) hK7 hK44 (by decide))))).trans (hD 5 (by decide)) | 6, _ => ((ri_ne wh104 (.inl (cw_kne (k := K) (d := 7) (k' := (K + 1)) (d' := 44) hK7 hK44 (by decide))))).trans (hD 6 (by decide)) | 7, _ => ((ri_ne wh104 (.inl (cw_kne (k := K) (d := 7) (k' := (K + 1)) (d' := 44) hK7 hK44 (by decide))))).trans (hD 7 (by decide)) | 8, _ => ((ri_ne wh104 (.inl (cw_kne (k := K) (d := 7) (k' := (K + 1)) (d' := 44) hK7 hK44 (by decide))))).trans (hD 8 (by decide)) | 9, _ => ((ri_ne wh104 (.inl (cw_kne (k := K) (d := 7) (k' := (K + 1)) (d' := 44) hK7 hK44 (by decide))))).trans (hD 9 (by decide)) | 10, _ => ((ri_ne wh104 (.inl (cw_kne (k := K) (d := 7) (k' := (K + 1)) (d' := 44) hK7 hK44 (by decide))))).trans (hD 10 (by decide)) | 11, _ => ((ri_ne wh104 (.inl (cw_kne (k := K) (d := 7) (k' := (K + 1)) (d' := 44) hK7 hK44 (by decide))))).trans (hD 11 (by decide)) | 12, _ => ((ri_ne wh104 (.inl (cw_kne (k := K) (d := 7) (k' := (K + 1)) (d' := 44) hK7 hK44 (by decide))))).trans (hD 12 (by decide)) | 13, _ => ((ri_ne wh104 (.inl (cw_kne (k := K) (d := 7) (k' := (K + 1)) (d' := 44) hK7 hK44 (by decide))))).trans (hD 13 (by decide)) | 14, _ => ((ri_ne wh104 (.inl (cw_kne (k := K) (d := 7) (k' := (K + 1)) (d' := 44) hK7 hK44 (by decide))))).trans (hD 14 (by decide)) | 15, _ => ((ri_ne wh104 (.inl (cw_kne (k := K) (d := 7) (k' := (K + 1)) (d' := 44) hK7 hK44 (by decide))))).trans (hD 15 (by decide)) | j + 16, hj => absurd hj (by omega)) (fun j hj => by by_cases q : j = i; (rw [q]; exact (rfl).trans ((ri_self wh104).trans (by omega))); exact (rfl).trans ((ri_ne wh104 (.inr q)).trans ((rfl).trans (hr j (by omega))))) (by omega) gL106_0 gL106_1
set_option maxHeartbeats 8000000 in
theorem ct_toldD {h0 : cv_H} (hT : cw_T G h0) {K : Nat} (hK7 : cw_sh[K]? = some 7) (hK44 : cw_sh[K + 1]? = some 44) (hKr : cw_at h0 K 16 = some (cv_r (K + 1))) (kk : ∀ h', cw_T G h' → cw_Fr cw_Ds cw_sh kk_X7_clear.2.2.2.2.2.1 h0 h' → zOK K h0 h' → (∀ j, j < 16 → ri_at h' K j = z16.getD j 0) → (∀ j, j < 9 → ri_at h' (K + 1) j = 0) → Q (none, h')) : cw_X X 86 Q 0 (cv_ent 0 [cv_r K]) [] h0 := by
  have Fh0 : cw_Fr cw_Ds cw_sh kk_X7_clear.2.2.2.2.2.1 h0 h0 := cw_Fr_refl
  have hOK : zOK K h0 h0 := zOK_0
  have hKR : ∀ h, cw_Fr cw_Ds cw_sh kk_X7_clear.2.2.2.2.2.1 h0 h → cw_at h K 16 = some (cv_r (K + 1)) := fun h F => (F.2 K 7 16 hK7 (by decide +kernel)).trans hKr
  refine ex_al oq_X7_clear_0 rfl ?_
  refine ex_bi oq_X7_clear_1 (m := 24) (by decide) (fun x301 hx301 => ?_)
  refine ex_pfi oq_X7_clear_3 hT (k := K) (d := 7) hK7 rfl rfl (cw_i32 _).1 (cw_i32 _).2 (fun h302 Th302 wh302 => ?_)
  have Fh302 : cw_Fr cw_Ds cw_sh kk_X7_clear.2.2.2.2.2.1 h0 h302 := cw_Fr_tr Fh0 (cw_Fr_wrf wh302 (k := K) (d := 7) hK7 rfl (by decide +kernel))
  have Wh302 := zOK_K wh302 hK7 hOK
  refine ex_al oq_X7_clear_6 rfl ?_
  refine ex_bi oq_X7_clear_7 (m := 20) (by decide) (fun x303 hx303 => ?_)
  refine ex_pfi oq_X7_clear_9 Th302 (k := K) (d := 7) hK7 rfl rfl (cw_i32 _).1 (cw_i32 _).2 (fun h304 Th304 wh304 => ?_)
  have Fh304 : cw_Fr cw_Ds cw_sh kk_X7_clear.2.2.2.2.2.1 h0 h304 := cw_Fr_tr Fh302 (cw_Fr_wrf wh304 (k := K) (d := 7) hK7 rfl (by decide +kernel))
  have Wh304 := zOK_K wh304 hK7 Wh302
  clear Wh302
  refine ex_al oq_X7_clear_12 rfl ?_
  refine ex_bi oq_X7_clear_13 (m := 24) (by decide) (fun x305 hx305 => ?_)
  refine ex_cv oq_X7_clear_15 (by decide) Th304 (k := K) (d := 7) (as := [cv_i x305]) (stk := []) hK7 rfl rfl rfl rfl rfl ⟨rfl, rfl⟩ (R := fun o => ∃ hb : cv_H, o = (none, hb) ∧ cw_T G hb ∧ cw_Fr cw_Ds cw_sh kk_X7_setHeight.2.2.2.2.2.1 h304 hb ∧ zOK K h304 hb ∧ ri_at hb K 1 = x305.toInt ∧ ri_at hb K 3 = 6 ∧ ri_at hb K 4 = x305.toInt - 6) (ct_heightD Th304 hK7 (by omega) (by omega) (fun hb b1 b2 b0 b3 b4 b5 => ⟨hb, rfl, b1, b2, b0, b3, b4, b5⟩)) (fun o ho => ?_)
  obtain ⟨h306, rfl, Th306, Ch306, oh306, y1, y3, y4⟩ := ho
  show cw_X _ _ _ _ _ [] h306
  have Fh306 : cw_Fr cw_Ds cw_sh kk_X7_clear.2.2.2.2.2.1 h0 h306 := cw_Fr_tr Fh304 (cw_Fr_mono (by decide +kernel) Ch306)
  have Wh306 := zOK_tr Wh304 oh306
  clear Wh304
  refine ex_al oq_X7_clear_18 rfl ?_
  refine ex_ic oq_X7_clear_19 (m := 0) (by decide) (fun x307 hx307 => ?_)
  refine ex_pfi oq_X7_clear_20 Th306 (k := K) (d := 7) hK7 rfl rfl (cw_i32 _).1 (cw_i32 _).2 (fun h308 Th308 wh308 => ?_)
  have Fh308 : cw_Fr cw_Ds cw_sh kk_X7_clear.2.2.2.2.2.1 h0 h308 := cw_Fr_tr Fh306 (cw_Fr_wrf wh308 (k := K) (d := 7) hK7 rfl (by decide +kernel))
  have Wh308 := zOK_K wh308 hK7 Wh306
  clear Wh306
  refine ex_al oq_X7_clear_23 rfl ?_
  refine ex_ic oq_X7_clear_24 (m := 0) (by decide) (fun x309 hx309 => ?_)
  refine ex_pfi oq_X7_clear_25 Th308 (k := K) (d := 7) hK7 rfl rfl (cw_i32 _).1 (cw_i32 _).2 (fun h310 Th310 wh310 => ?_)
  have Fh310 : cw_Fr cw_Ds cw_sh kk_X7_clear.2.2.2.2.2.1 h0 h310 := cw_Fr_tr Fh308 (cw_Fr_wrf wh310 (k := K) (d := 7) hK7 rfl (by decide +kernel))
  have Wh310 := zOK_K wh310 hK7 Wh308
  clear Wh308
  refine ex_al oq_X7_clear_28 rfl ?_
  refine ex_bi oq_X7_clear_29 (m := 36) (by decide) (fun x311 hx311 => ?_)
  refine ex_pfi oq_X7_clear_31 Th310 (k := K) (d := 7) hK7 rfl rfl (cw_i32 _).1 (cw_i32 _).2 (fun h312 Th312 wh312 => ?_)
  have Fh312 : cw_Fr cw_Ds cw_sh kk_X7_clear.2.2.2.2.2.1 h0 h312 := cw_Fr_tr Fh310 (cw_Fr_wrf wh312 (k := K) (d := 7) hK7 rfl (by decide +kernel))
  have Wh312 := zOK_K wh312 hK7 Wh310
  clear Wh310
  refine ex_al oq_X7_clear_34 rfl ?_
  refine ex_bi oq_X7_clear_35 (m := 8) (by decide) (fun x313 hx313 => ?_)
  refine ex_pfi oq_X7_clear_37 Th312 (k := K) (d := 7) hK7 rfl rfl (cw_i32 _).1 (cw_i32 _).2 (fun h314 Th314 wh314 => ?_)
  have Fh314 : cw_Fr cw_Ds cw_sh kk_X7_clear.2.2.2.2.2.1 h0 h314 := cw_Fr_tr Fh312 (cw_Fr_wrf wh314 (k := K) (d := 7) hK7 rfl (by decide +kernel))
  have Wh314 := zOK_K wh314 hK7 Wh312
  clear Wh312
  refine ex_al oq_X7_clear_40 rfl ?_
  refine ex_ic oq_X7_clear_41 (m := 0) (by decide) (fun x315 hx315 => ?_)
  refine ex_pfi oq_X7_clear_42 Th314 (k := K) (d := 7) hK7 rfl rfl (cw_i32 _).1 (cw_i32 _).2 (fun h316 Th316 wh316 => ?_)
  have Fh316 : cw_Fr cw_Ds cw_sh kk_X7_clear.2.2.2.2.2.1 h0 h316 := cw_Fr_tr Fh314 (cw_Fr_wrf wh316 (k := K) (d := 7) hK7 rfl (by decide +kernel))
  have Wh316 := zOK_K wh316 hK7 Wh314
  clear Wh314
  refine ex_al oq_X7_clear_45 rfl ?_
  refine ex_si oq_X7_clear_46 (m := 1000) (by decide) (fun x317 hx317 => ?_)
  refine ex_pfi oq_X7_clear_49 Th316 (k := K) (d := 7) hK7 rfl rfl (cw_i32 _).1 (cw_i32 _).2 (fun h318 Th318 wh318 => ?_)
  have Fh318 : cw_Fr cw_Ds cw_sh kk_X7_clear.2.2.2.2.2.1 h0 h318 := cw_Fr_tr Fh316 (cw_Fr_wrf wh318 (k := K) (d := 7) hK7 rfl (by decide +kernel))
  have Wh318 := zOK_K wh318 hK7 Wh316
  clear Wh316
  refine ex_al oq_X7_clear_52 rfl ?_
  refine ex_si oq_X7_clear_53 (m := 1000) (by decide) (fun x319 hx319 => ?_)
  refine ex_pfi oq_X7_clear_56 Th318 (k := K) (d := 7) hK7 rfl rfl (cw_i32 _).1 (cw_i32 _).2 (fun h320 Th320 wh320 => ?_)
  have Fh320 : cw_Fr cw_Ds cw_sh kk_X7_clear.2.2.2.2.2.1 h0 h320 := cw_Fr_tr Fh318 (cw_Fr_wrf wh320 (k := K) (d := 7) hK7 rfl (by decide +kernel))
  have Wh320 := zOK_K wh320 hK7 Wh318
  clear Wh318
  refine ex_al oq_X7_clear_59 rfl ?_
  refine ex_ic oq_X7_clear_60 (m := 0) (by decide) (fun x321 hx321 => ?_)
  refine ex_pfi oq_X7_clear_61 Th320 (k := K) (d := 7) hK7 rfl rfl (cw_i32 _).1 (cw_i32 _).2 (fun h322 Th322 wh322 => ?_)
  have Fh322 : cw_Fr cw_Ds cw_sh kk_X7_clear.2.2.2.2.2.1 h0 h322 := cw_Fr_tr Fh320 (cw_Fr_wrf wh322 (k := K) (d := 7) hK7 rfl (by decide +kernel))
  have Wh322 := zOK_K wh322 hK7 Wh320
  clear Wh320
  refine ex_al oq_X7_clear_64 rfl ?_
  refine ex_si oq_X7_clear_65 (m := 3000) (by decide) (fun x323 hx323 => ?_)
  refine ex_pfi oq_X7_clear_68 Th322 (k := K) (d := 7) hK7 rfl rfl (cw_i32 _).1 (cw_i32 _).2 (fun h324 Th324 wh324 => ?_)
  have Fh324 : cw_Fr cw_Ds cw_sh kk_X7_clear.2.2.2.2.2.1 h0 h324 := cw_Fr_tr Fh322 (cw_Fr_wrf wh324 (k := K) (d := 7) hK7 rfl (by decide +kernel))
  have Wh324 := zOK_K wh324 hK7 Wh322
  clear Wh322
  refine ex_al oq_X7_clear_71 rfl ?_
  refine ex_ic oq_X7_clear_72 (m := 0) (by decide) (fun x325 hx325 => ?_)
  refine ex_pfi oq_X7_clear_73 Th324 (k := K) (d := 7) hK7 rfl rfl (cw_i32 _).1 (cw_i32 _).2 (fun h326 Th326 wh326 => ?_)
  have Fh326 : cw_Fr cw_Ds cw_sh kk_X7_clear.2.2.2.2.2.1 h0 h326 := cw_Fr_tr Fh324 (cw_Fr_wrf wh326 (k := K) (d := 7) hK7 rfl (by decide +kernel))
  have Wh326 := zOK_K wh326 hK7 Wh324
  clear Wh324
  refine ex_al oq_X7_clear_76 rfl ?_
  refine ex_ic oq_X7_clear_77 (m := 0) (by decide) (fun x327 hx327 => ?_)
  refine ex_pfi oq_X7_clear_78 Th326 (k := K) (d := 7) hK7 rfl rfl (cw_i32 _).1 (cw_i32 _).2 (fun h328 Th328 wh328 => ?_)
  have Fh328 : cw_Fr cw_Ds cw_sh kk_X7_clear.2.2.2.2.2.1 h0 h328 := cw_Fr_tr Fh326 (cw_Fr_wrf wh328 (k := K) (d := 7) hK7 rfl (by decide +kernel))
  have Wh328 := zOK_K wh328 hK7 Wh326
  clear Wh326
  refine ex_ic oq_X7_clear_81 (m := 0) (by decide) (fun x329 hx329 => ?_)
  refine ex_isA oq_X7_clear_82 (fun L330 gL330_1 kL330 => ?_)
  have gL330_0 : cv_get L330 0 = some (cv_r K) := kL330 0 _ (by decide) (fun _ => rfl) rfl
  exact tc_lp hK7 hK44 hKr kk 9 0 L330 x329 h328 (by omega) Th328 Fh328 Wh328 (fun j hj => match j, hj with | 0, _ => (((((ri_ne wh328 (.inr (by decide))).trans ((ri_ne wh326 (.inr (by decide))).trans ((ri_ne wh324 (.inr (by decide))).trans ((ri_ne wh322 (.inr (by decide))).trans ((ri_ne wh320 (.inr (by decide))).trans ((ri_ne wh318 (.inr (by decide))).trans ((ri_ne wh316 (.inr (by decide))).trans ((ri_ne wh314 (.inr (by decide))).trans ((ri_ne wh312 (.inr (by decide))).trans ((ri_ne wh310 (.inr (by decide))).trans ((ri_ne wh308 (.inr (by decide))).trans ((ri_frf Ch306 (k := K) (d := 7) hK7 rfl (by decide +kernel)).trans (ri_ne wh304 (.inr (by decide)))))))))))))))).trans (ri_self wh302))).trans (show x301.toInt = (24 : Int) from by omega) | 1, _ => (((ri_ne wh328 (.inr (by decide))).trans ((ri_ne wh326 (.inr (by decide))).trans ((ri_ne wh324 (.inr (by decide))).trans ((ri_ne wh322 (.inr (by decide))).trans ((ri_ne wh320 (.inr (by decide))).trans ((ri_ne wh318 (.inr (by decide))).trans ((ri_ne wh316 (.inr (by decide))).trans ((ri_ne wh314 (.inr (by decide))).trans ((ri_ne wh312 (.inr (by decide))).trans ((ri_ne wh310 (.inr (by decide))).trans (ri_ne wh308 (.inr (by decide)))))))))))))).trans (y1.trans (show _ = (24 : Int) from by omega)) | 2, _ => (((((ri_ne wh328 (.inr (by decide))).trans ((ri_ne wh326 (.inr (by decide))).trans ((ri_ne wh324 (.inr (by decide))).trans ((ri_ne wh322 (.inr (by decide))).trans ((ri_ne wh320 (.inr (by decide))).trans ((ri_ne wh318 (.inr (by decide))).trans ((ri_ne wh316 (.inr (by decide))).trans ((ri_ne wh314 (.inr (by decide))).trans ((ri_ne wh312 (.inr (by decide))).trans ((ri_ne wh310 (.inr (by decide))).trans ((ri_ne wh308 (.inr (by decide))).trans (ri_frf Ch306 (k := K) (d := 7) hK7 rfl (by decide +kernel)))))))))))))).trans (ri_self wh304))).trans (show x303.toInt = (20 : Int) from by omega) | 3, _ => (((ri_ne wh328 (.inr (by decide))).trans ((ri_ne wh326 (.inr (by decide))).trans ((ri_ne wh324 (.inr (by decide))).trans ((ri_ne wh322 (.inr (by decide))).trans ((ri_ne wh320 (.inr (by decide))).trans ((ri_ne wh318 (.inr (by decide))).trans ((ri_ne wh316 (.inr (by decide))).trans ((ri_ne wh314 (.inr (by decide))).trans ((ri_ne wh312 (.inr (by decide))).trans ((ri_ne wh310 (.inr (by decide))).trans (ri_ne wh308 (.inr (by decide)))))))))))))).trans (y3.trans (show _ = (6 : Int) from by omega)) | 4, _ => (((ri_ne wh328 (.inr (by decide))).trans ((ri_ne wh326 (.inr (by decide))).trans ((ri_ne wh324 (.inr (by decide))).trans ((ri_ne wh322 (.inr (by decide))).trans ((ri_ne wh320 (.inr (by decide))).trans ((ri_ne wh318 (.inr (by decide))).trans ((ri_ne wh316 (.inr (by decide))).trans ((ri_ne wh314 (.inr (by decide))).trans ((ri_ne wh312 (.inr (by decide))).trans ((ri_ne wh310 (.inr (by decide))).trans (ri_ne wh308 (.inr (by decide)))))))))))))).trans (y4.trans (show _ = (18 : Int) from by omega)) | 5, _ => (((((ri_ne wh328 (.inr (by decide))).trans ((ri_ne wh326 (.inr (by decide))).trans ((ri_ne wh324 (.inr (by decide))).trans ((ri_ne wh322 (.inr (by decide))).trans ((ri_ne wh320 (.inr (by decide))).trans ((ri_ne wh318 (.inr (by decide))).trans ((ri_ne wh316 (.inr (by decide))).trans ((ri_ne wh314 (.inr (by decide))).trans ((ri_ne wh312 (.inr (by decide))).trans (ri_ne wh310 (.inr (by decide))))))))))))).trans (ri_self wh308))).trans (show x307.toInt = (0 : Int) from by omega) | 6, _ => (((((ri_ne wh328 (.inr (by decide))).trans ((ri_ne wh326 (.inr (by decide))).trans ((ri_ne wh324 (.inr (by decide))).trans ((ri_ne wh322 (.inr (by decide))).trans ((ri_ne wh320 (.inr (by decide))).trans ((ri_ne wh318 (.inr (by decide))).trans ((ri_ne wh316 (.inr (by decide))).trans ((ri_ne wh314 (.inr (by decide))).trans (ri_ne wh312 (.inr (by decide)))))))))))).trans (ri_self wh310))).trans (show x309.toInt = (0 : Int) from by omega) | 7, _ => (((((ri_ne wh328 (.inr (by decide))).trans ((ri_ne wh326 (.inr (by decide))).trans ((ri_ne wh324 (.inr (by decide))).trans ((ri_ne wh322 (.inr (by decide))).trans ((ri_ne wh320 (.inr (by decide))).trans ((ri_ne wh318 (.inr (by decide))).trans ((ri_ne wh316 (.inr (by decide))).trans (ri_ne wh314 (.inr (by decide))))))))))).trans (ri_self wh312))).trans (show x311.toInt = (36 : Int) from by omega) | 8, _ => (((((ri_ne wh328 (.inr (by decide))).trans ((ri_ne wh326 (.inr (by decide))).trans ((ri_ne wh324 (.inr (by decide))).trans ((ri_ne wh322 (.inr (by decide))).trans ((ri_ne wh320 (.inr (by decide))).trans ((ri_ne wh318 (.inr (by decide))).trans (ri_ne wh316 (.inr (by decide)))))))))).trans (ri_self wh314))).trans (show x313.toInt = (8 : Int) from by omega) | 9, _ => (((((ri_ne wh328 (.inr (by decide))).trans ((ri_ne wh326 (.inr (by decide))).trans ((ri_ne wh324 (.inr (by decide))).trans ((ri_ne wh322 (.inr (by decide))).trans ((ri_ne wh320 (.inr (by decide))).trans (ri_ne wh318 (.inr (by decide))))))))).trans (ri_self wh316))).trans (show x315.toInt = (0 : Int) from by omega) | 10, _ => (((((ri_ne wh328 (.inr (by decide))).trans ((ri_ne wh326 (.inr (by decide))).trans ((ri_ne wh324 (.inr (by decide))).trans ((ri_ne wh322 (.inr (by decide))).trans (ri_ne wh320 (.inr (by decide)))))))).trans (ri_self wh318))).trans (show x317.toInt = (1000 : Int) from by omega) | 11, _ => (((((ri_ne wh328 (.inr (by decide))).trans ((ri_ne wh326 (.inr (by decide))).trans ((ri_ne wh324 (.inr (by decide))).trans (ri_ne wh322 (.inr (by decide))))))).trans (ri_self wh320))).trans (show x319.toInt = (1000 : Int) from by omega) | 12, _ => (((((ri_ne wh328 (.inr (by decide))).trans ((ri_ne wh326 (.inr (by decide))).trans (ri_ne wh324 (.inr (by decide)))))).trans (ri_self wh322))).trans (show x321.toInt = (0 : Int) from by omega) | 13, _ => (((((ri_ne wh328 (.inr (by decide))).trans (ri_ne wh326 (.inr (by decide))))).trans (ri_self wh324))).trans (show x323.toInt = (3000 : Int) from by omega) | 14, _ => ((((ri_ne wh328 (.inr (by decide)))).trans (ri_self wh326))).trans (show x325.toInt = (0 : Int) from by omega) | 15, _ => (((rfl).trans (ri_self wh328))).trans (show x327.toInt = (0 : Int) from by omega) | j + 16, hj => absurd hj (by omega)) (fun j hj => absurd hj (Nat.not_lt_zero j)) (by omega) gL330_0 gL330_1
theorem sh_told1 {b i : Nat} (hb : b = 2 ∨ b = 26) (hi : i < 4) : cw_sh[b + 16 + 2 * i + 1]? = some 44 := by
  rcases hb with rfl | rfl
  · have : ∀ i : Fin 4, cw_sh[2 + 16 + 2 * i.1 + 1]? = some 44 := by decide
    exact this ⟨i, hi⟩
  · have : ∀ i : Fin 4, cw_sh[26 + 16 + 2 * i.1 + 1]? = some 44 := by decide
    exact this ⟨i, hi⟩
theorem pc_end {h0 : cv_H} {b : Nat} (hb : b = 2 ∨ b = 26) (hpm : zPM b h0) (hQ : ∀ h', cw_T G h' → cw_Fr cw_Ds cw_sh kk_X4_clear.2.2.2.2.2.1 h0 h' → (∀ j, j < 12 → ri_at h' (b + 1) j = 50) → (∀ j, j < 4 → ri_at h' (b + 3) j = 0 ∧ ri_at h' (b + 4) j = 0 ∧ ri_at h' (b + 5) j = 0) → (∀ e, e < 4 → (∀ j, j < 16 → ri_at h' (b + 16 + 2 * e) j = z16.getD j 0) ∧ ∀ j, j < 9 → ri_at h' (b + 16 + 2 * e + 1) j = 0) → ri_at h' b 2 = 0 → ri_at h' b 3 = 0 → ri_at h' b 9 = 0 → ri_at h' b 14 = 0 → ri_at h' b 19 = 0 → Q (none, h')) (h : cv_H) {L : cv_L} (hT : cw_T G h) (Fh : cw_Fr cw_Ds cw_sh kk_X4_clear.2.2.2.2.2.1 h0 h) (h3 : (∀ j, j < 12 → ri_at h (b + 1) j = 50)) (h4 : (∀ j, j < 4 → ri_at h (b + 3) j = 0 ∧ ri_at h (b + 4) j = 0 ∧ ri_at h (b + 5) j = 0)) (h5 : (∀ e, e < 4 → (∀ j, j < 16 → ri_at h (b + 16 + 2 * e) j = z16.getD j 0) ∧ ∀ j, j < 9 → ri_at h (b + 16 + 2 * e + 1) j = 0)) (g0 : cv_get L 0 = some (cv_r b)) : cw_X X 49 Q 78 L [] h := by
  have hPM : ∀ h, cw_Fr cw_Ds cw_sh kk_X4_clear.2.2.2.2.2.1 h0 h → zPM b h := fun h F => zPM_fr hb F (by decide +kernel) hpm
  have hb4 : cw_sh[b]? = some 4 := by rcases hb with rfl | rfl <;> rfl
  have hkb1 : cw_sh[b + 1]? = some 28 := by rcases hb with rfl | rfl <;> rfl
  have hkb2 : cw_sh[b + 2]? = some 29 := by rcases hb with rfl | rfl <;> rfl
  have hkb3 : cw_sh[b + 3]? = some 30 := by rcases hb with rfl | rfl <;> rfl
  have hkb4 : cw_sh[b + 4]? = some 31 := by rcases hb with rfl | rfl <;> rfl
  have hkb5 : cw_sh[b + 5]? = some 32 := by rcases hb with rfl | rfl <;> rfl
  have hkb6 : cw_sh[b + 6]? = some 33 := by rcases hb with rfl | rfl <;> rfl
  have hkb7 : cw_sh[b + 7]? = some 34 := by rcases hb with rfl | rfl <;> rfl
  have hkb8 : cw_sh[b + 8]? = some 35 := by rcases hb with rfl | rfl <;> rfl
  have hkb9 : cw_sh[b + 9]? = some 36 := by rcases hb with rfl | rfl <;> rfl
  have hkb10 : cw_sh[b + 10]? = some 37 := by rcases hb with rfl | rfl <;> rfl
  have hkb11 : cw_sh[b + 11]? = some 38 := by rcases hb with rfl | rfl <;> rfl
  have hkb12 : cw_sh[b + 12]? = some 39 := by rcases hb with rfl | rfl <;> rfl
  have hkb13 : cw_sh[b + 13]? = some 40 := by rcases hb with rfl | rfl <;> rfl
  have hkb14 : cw_sh[b + 14]? = some 41 := by rcases hb with rfl | rfl <;> rfl
  have hkb15 : cw_sh[b + 15]? = some 42 := by rcases hb with rfl | rfl <;> rfl
  refine ex_al oq_X4_clear_78 g0 ?_
  refine ex_ic oq_X4_clear_79 (m := 0) (by decide) (fun x51 hx51 => ?_)
  refine ex_pfi oq_X4_clear_80 hT (k := b) (d := 4) hb4 rfl rfl (cw_i32 _).1 (cw_i32 _).2 (fun h52 Th52 wh52 => ?_)
  have Fh52 : cw_Fr cw_Ds cw_sh kk_X4_clear.2.2.2.2.2.1 h0 h52 := cw_Fr_tr Fh (cw_Fr_wrf wh52 (k := b) (d := 4) hb4 rfl (by decide +kernel))
  refine ex_al oq_X4_clear_83 g0 ?_
  refine ex_ic oq_X4_clear_84 (m := 0) (by decide) (fun x53 hx53 => ?_)
  refine ex_pfi oq_X4_clear_85 Th52 (k := b) (d := 4) hb4 rfl rfl (cw_i32 _).1 (cw_i32 _).2 (fun h54 Th54 wh54 => ?_)
  have Fh54 : cw_Fr cw_Ds cw_sh kk_X4_clear.2.2.2.2.2.1 h0 h54 := cw_Fr_tr Fh52 (cw_Fr_wrf wh54 (k := b) (d := 4) hb4 rfl (by decide +kernel))
  refine ex_al oq_X4_clear_88 g0 ?_
  refine ex_ic oq_X4_clear_89 (m := 0) (by decide) (fun x55 hx55 => ?_)
  refine ex_pfi oq_X4_clear_90 Th54 (k := b) (d := 4) hb4 rfl rfl (by omega) (by omega) (fun h56 Th56 wh56 => ?_)
  have Fh56 : cw_Fr cw_Ds cw_sh kk_X4_clear.2.2.2.2.2.1 h0 h56 := cw_Fr_tr Fh54 (cw_Fr_wrf wh56 (k := b) (d := 4) hb4 rfl (by decide +kernel))
  refine ex_al oq_X4_clear_93 g0 ?_
  refine ex_ic oq_X4_clear_94 (m := 0) (by decide) (fun x57 hx57 => ?_)
  refine ex_pfi oq_X4_clear_95 Th56 (k := b) (d := 4) hb4 rfl rfl (by omega) (by omega) (fun h58 Th58 wh58 => ?_)
  have Fh58 : cw_Fr cw_Ds cw_sh kk_X4_clear.2.2.2.2.2.1 h0 h58 := cw_Fr_tr Fh56 (cw_Fr_wrf wh58 (k := b) (d := 4) hb4 rfl (by decide +kernel))
  refine ex_al oq_X4_clear_98 g0 ?_
  refine ex_ic oq_X4_clear_99 (m := 0) (by decide) (fun x59 hx59 => ?_)
  refine ex_pfi oq_X4_clear_100 Th58 (k := b) (d := 4) hb4 rfl rfl (by omega) (by omega) (fun h60 Th60 wh60 => ?_)
  have Fh60 : cw_Fr cw_Ds cw_sh kk_X4_clear.2.2.2.2.2.1 h0 h60 := cw_Fr_tr Fh58 (cw_Fr_wrf wh60 (k := b) (d := 4) hb4 rfl (by decide +kernel))
  exact ex_retv oq_X4_clear_103 rfl (hQ h60 Th60 Fh60 (fun j hj => (((ri_ne wh60 (.inl (cw_kne (k := (b + 1)) (d := 28) (k' := b) (d' := 4) hkb1 hb4 (by decide)))).trans ((ri_ne wh58 (.inl (cw_kne (k := (b + 1)) (d := 28) (k' := b) (d' := 4) hkb1 hb4 (by decide)))).trans ((ri_ne wh56 (.inl (cw_kne (k := (b + 1)) (d := 28) (k' := b) (d' := 4) hkb1 hb4 (by decide)))).trans ((ri_ne wh54 (.inl (cw_kne (k := (b + 1)) (d := 28) (k' := b) (d' := 4) hkb1 hb4 (by decide)))).trans (ri_ne wh52 (.inl (cw_kne (k := (b + 1)) (d := 28) (k' := b) (d' := 4) hkb1 hb4 (by decide))))))))).trans (h3 j hj)) (fun j hj => ⟨(((ri_ne wh60 (.inl (cw_kne (k := (b + 3)) (d := 30) (k' := b) (d' := 4) hkb3 hb4 (by decide)))).trans ((ri_ne wh58 (.inl (cw_kne (k := (b + 3)) (d := 30) (k' := b) (d' := 4) hkb3 hb4 (by decide)))).trans ((ri_ne wh56 (.inl (cw_kne (k := (b + 3)) (d := 30) (k' := b) (d' := 4) hkb3 hb4 (by decide)))).trans ((ri_ne wh54 (.inl (cw_kne (k := (b + 3)) (d := 30) (k' := b) (d' := 4) hkb3 hb4 (by decide)))).trans (ri_ne wh52 (.inl (cw_kne (k := (b + 3)) (d := 30) (k' := b) (d' := 4) hkb3 hb4 (by decide))))))))).trans (h4 j hj).1, (((ri_ne wh60 (.inl (cw_kne (k := (b + 4)) (d := 31) (k' := b) (d' := 4) hkb4 hb4 (by decide)))).trans ((ri_ne wh58 (.inl (cw_kne (k := (b + 4)) (d := 31) (k' := b) (d' := 4) hkb4 hb4 (by decide)))).trans ((ri_ne wh56 (.inl (cw_kne (k := (b + 4)) (d := 31) (k' := b) (d' := 4) hkb4 hb4 (by decide)))).trans ((ri_ne wh54 (.inl (cw_kne (k := (b + 4)) (d := 31) (k' := b) (d' := 4) hkb4 hb4 (by decide)))).trans (ri_ne wh52 (.inl (cw_kne (k := (b + 4)) (d := 31) (k' := b) (d' := 4) hkb4 hb4 (by decide))))))))).trans (h4 j hj).2.1, (((ri_ne wh60 (.inl (cw_kne (k := (b + 5)) (d := 32) (k' := b) (d' := 4) hkb5 hb4 (by decide)))).trans ((ri_ne wh58 (.inl (cw_kne (k := (b + 5)) (d := 32) (k' := b) (d' := 4) hkb5 hb4 (by decide)))).trans ((ri_ne wh56 (.inl (cw_kne (k := (b + 5)) (d := 32) (k' := b) (d' := 4) hkb5 hb4 (by decide)))).trans ((ri_ne wh54 (.inl (cw_kne (k := (b + 5)) (d := 32) (k' := b) (d' := 4) hkb5 hb4 (by decide)))).trans (ri_ne wh52 (.inl (cw_kne (k := (b + 5)) (d := 32) (k' := b) (d' := 4) hkb5 hb4 (by decide))))))))).trans (h4 j hj).2.2⟩) (fun i hi => ⟨fun j hj => (((ri_ne wh60 (.inl (cw_kne (k := b + 16 + 2 * i) (d := 7) (k' := b) (d' := 4) (sh_told hb hi) hb4 (by decide)))).trans ((ri_ne wh58 (.inl (cw_kne (k := b + 16 + 2 * i) (d := 7) (k' := b) (d' := 4) (sh_told hb hi) hb4 (by decide)))).trans ((ri_ne wh56 (.inl (cw_kne (k := b + 16 + 2 * i) (d := 7) (k' := b) (d' := 4) (sh_told hb hi) hb4 (by decide)))).trans ((ri_ne wh54 (.inl (cw_kne (k := b + 16 + 2 * i) (d := 7) (k' := b) (d' := 4) (sh_told hb hi) hb4 (by decide)))).trans (ri_ne wh52 (.inl (cw_kne (k := b + 16 + 2 * i) (d := 7) (k' := b) (d' := 4) (sh_told hb hi) hb4 (by decide))))))))).trans ((h5 i hi).1 j hj), fun j hj => (((ri_ne wh60 (.inl (cw_kne (k := b + 16 + 2 * i + 1) (d := 44) (k' := b) (d' := 4) (sh_told1 hb hi) hb4 (by decide)))).trans ((ri_ne wh58 (.inl (cw_kne (k := b + 16 + 2 * i + 1) (d := 44) (k' := b) (d' := 4) (sh_told1 hb hi) hb4 (by decide)))).trans ((ri_ne wh56 (.inl (cw_kne (k := b + 16 + 2 * i + 1) (d := 44) (k' := b) (d' := 4) (sh_told1 hb hi) hb4 (by decide)))).trans ((ri_ne wh54 (.inl (cw_kne (k := b + 16 + 2 * i + 1) (d := 44) (k' := b) (d' := 4) (sh_told1 hb hi) hb4 (by decide)))).trans (ri_ne wh52 (.inl (cw_kne (k := b + 16 + 2 * i + 1) (d := 44) (k' := b) (d' := 4) (sh_told1 hb hi) hb4 (by decide))))))))).trans ((h5 i hi).2 j hj)⟩) ((((((ri_ne wh60 (.inr (by decide))).trans ((ri_ne wh58 (.inr (by decide))).trans ((ri_ne wh56 (.inr (by decide))).trans (ri_ne wh54 (.inr (by decide))))))).trans (ri_self wh52))).trans (by omega)) ((((((ri_ne wh60 (.inr (by decide))).trans ((ri_ne wh58 (.inr (by decide))).trans (ri_ne wh56 (.inr (by decide)))))).trans (ri_self wh54))).trans (by omega)) ((((((ri_ne wh60 (.inr (by decide))).trans (ri_ne wh58 (.inr (by decide))))).trans (ri_self wh56))).trans (by omega)) (((((ri_ne wh60 (.inr (by decide)))).trans (ri_self wh58))).trans (by omega)) ((((rfl).trans (ri_self wh60))).trans (by omega)))
theorem pc_t {h0 : cv_H} {b : Nat} (hb : b = 2 ∨ b = 26) (hpm : zPM b h0) (hrp : ∀ i, i < 4 → cw_at h0 (b + 16 + 2 * i) 16 = some (cv_r (b + 16 + 2 * i + 1))) (hQ : ∀ h', cw_T G h' → cw_Fr cw_Ds cw_sh kk_X4_clear.2.2.2.2.2.1 h0 h' → (∀ j, j < 12 → ri_at h' (b + 1) j = 50) → (∀ j, j < 4 → ri_at h' (b + 3) j = 0 ∧ ri_at h' (b + 4) j = 0 ∧ ri_at h' (b + 5) j = 0) → (∀ e, e < 4 → (∀ j, j < 16 → ri_at h' (b + 16 + 2 * e) j = z16.getD j 0) ∧ ∀ j, j < 9 → ri_at h' (b + 16 + 2 * e + 1) j = 0) → ri_at h' b 2 = 0 → ri_at h' b 3 = 0 → ri_at h' b 9 = 0 → ri_at h' b 14 = 0 → ri_at h' b 19 = 0 → Q (none, h')) : ∀ (u i : Nat) (L : cv_L) (I : Int32) (h : cv_H), i + u = 4 → cw_T G h → cw_Fr cw_Ds cw_sh kk_X4_clear.2.2.2.2.2.1 h0 h → (∀ j, j < 12 → ri_at h (b + 1) j = 50) → (∀ j, j < 4 → ri_at h (b + 3) j = 0 ∧ ri_at h (b + 4) j = 0 ∧ ri_at h (b + 5) j = 0) → (∀ e, e < i → (∀ j, j < 16 → ri_at h (b + 16 + 2 * e) j = z16.getD j 0) ∧ ∀ j, j < 9 → ri_at h (b + 16 + 2 * e + 1) j = 0) → I.toInt = i → cv_get L 0 = some (cv_r b) → cv_get L 1 = some (cv_i I) → cw_X X 49 Q 58 L [] h := by
  have hPM : ∀ h, cw_Fr cw_Ds cw_sh kk_X4_clear.2.2.2.2.2.1 h0 h → zPM b h := fun h F => zPM_fr hb F (by decide +kernel) hpm
  have hb4 : cw_sh[b]? = some 4 := by rcases hb with rfl | rfl <;> rfl
  have hkb1 : cw_sh[b + 1]? = some 28 := by rcases hb with rfl | rfl <;> rfl
  have hkb2 : cw_sh[b + 2]? = some 29 := by rcases hb with rfl | rfl <;> rfl
  have hkb3 : cw_sh[b + 3]? = some 30 := by rcases hb with rfl | rfl <;> rfl
  have hkb4 : cw_sh[b + 4]? = some 31 := by rcases hb with rfl | rfl <;> rfl
  have hkb5 : cw_sh[b + 5]? = some 32 := by rcases hb with rfl | rfl <;> rfl
  have hkb6 : cw_sh[b + 6]? = some 33 := by rcases hb with rfl | rfl <;> rfl
  have hkb7 : cw_sh[b + 7]? = some 34 := by rcases hb with rfl | rfl <;> rfl
  have hkb8 : cw_sh[b + 8]? = some 35 := by rcases hb with rfl | rfl <;> rfl
  have hkb9 : cw_sh[b + 9]? = some 36 := by rcases hb with rfl | rfl <;> rfl
  have hkb10 : cw_sh[b + 10]? = some 37 := by rcases hb with rfl | rfl <;> rfl
  have hkb11 : cw_sh[b + 11]? = some 38 := by rcases hb with rfl | rfl <;> rfl
  have hkb12 : cw_sh[b + 12]? = some 39 := by rcases hb with rfl | rfl <;> rfl
  have hkb13 : cw_sh[b + 13]? = some 40 := by rcases hb with rfl | rfl <;> rfl
  have hkb14 : cw_sh[b + 14]? = some 41 := by rcases hb with rfl | rfl <;> rfl
  have hkb15 : cw_sh[b + 15]? = some 42 := by rcases hb with rfl | rfl <;> rfl
  intro u
  induction u with
  | zero =>
    intro i L I h hiu hT Fh h3 h4 h5 hI g0 g1
    refine ex_il oq_X4_clear_58 g1 ?_
    refine ex_ic oq_X4_clear_59 (m := 4) (by decide) (fun x101 hx101 => ?_)
    refine ex_if oq_X4_clear_60 (t := 78) rfl rfl (fun (c102 : x101.toInt ≤ I.toInt) => ?_) (fun (c102 : ¬ (x101.toInt ≤ I.toInt)) => ?_)
    · exact pc_end hb hpm hQ h hT Fh h3 h4 (fun i2 hi2 => h5 i2 (by omega)) g0
    · exfalso; omega
  | succ u ih =>
    intro i L I h hiu hT Fh h3 h4 h5 hI g0 g1
    obtain ⟨K, hKe⟩ : ∃ K, K = b + 16 + 2 * i := ⟨_, rfl⟩
    have hK7 : cw_sh[K]? = some 7 := by rw [hKe]; exact sh_told hb (by omega)
    have hK44 : cw_sh[K + 1]? = some 44 := by rw [hKe]; exact sh_told1 hb (by omega)
    have hKr : ∀ h, cw_Fr cw_Ds cw_sh kk_X4_clear.2.2.2.2.2.1 h0 h → cw_at h K 16 = some (cv_r (K + 1)) := fun h F => (F.2 K 7 16 hK7 (by decide +kernel)).trans (by rw [hKe]; exact hrp i (by omega))
    refine ex_il oq_X4_clear_58 g1 ?_
    refine ex_ic oq_X4_clear_59 (m := 4) (by decide) (fun x101 hx101 => ?_)
    refine ex_if oq_X4_clear_60 (t := 78) rfl rfl (fun (c102 : x101.toInt ≤ I.toInt) => ?_) (fun (c102 : ¬ (x101.toInt ≤ I.toInt)) => ?_)
    · exfalso; omega
    · refine ex_al oq_X4_clear_63 g0 ?_
      refine ex_gf oq_X4_clear_64 hT (k := b) (d := 4) hb4 rfl ((show cw_at h b 7 = some (cv_r (b + 6)) from (hPM _ Fh).1 7 (by decide))) ?_
      refine ex_il oq_X4_clear_67 g1 ?_
      refine ex_aa oq_X4_clear_68 hT (k := (b + 6)) (d := 33) (j := i) hkb6 rfl (by omega) (by omega) (fun k104 ak104 sk104 => ?_)
      have ek104 : K = k104 := by have := ((hPM _ Fh).2 i (by omega)).symm.trans ak104; rw [← hKe] at this; cases this; rfl
      subst ek104
      refine ex_cv oq_X4_clear_69 (by decide) hT (k := K) (d := 7) (as := []) (stk := []) hK7 rfl rfl rfl rfl rfl ⟨rfl, rfl⟩ (R := fun o => ∃ hb : cv_H, o = (none, hb) ∧ cw_T G hb ∧ cw_Fr cw_Ds cw_sh kk_X7_clear.2.2.2.2.2.1 h hb ∧ zOK K h hb ∧ (∀ j, j < 16 → ri_at hb K j = z16.getD j 0) ∧ (∀ j, j < 9 → ri_at hb (K + 1) j = 0)) (ct_toldD hT hK7 hK44 (hKr _ Fh) (fun hb b1 b2 b3 b4 b5 => ⟨hb, rfl, b1, b2, b3, b4, b5⟩)) (fun o ho => ?_)
      obtain ⟨h105, rfl, Th105, Ch105, oh105, y4, y5⟩ := ho
      show cw_X _ _ _ _ _ [] h105
      have Fh105 : cw_Fr cw_Ds cw_sh kk_X4_clear.2.2.2.2.2.1 h0 h105 := cw_Fr_tr Fh (cw_Fr_mono (by decide +kernel) Ch105)
      refine ex_incA oq_X4_clear_72 (v := I) (m := 1) g1 (by decide) (by omega) (fun L107 x106 hx106 gL107_1 kL107 => ?_)
      have gL107_0 : cv_get L107 0 = some (cv_r b) := kL107 0 _ (by decide) (fun _ => rfl) g0
      refine ex_go oq_X4_clear_75 (t := 58) rfl rfl ?_
      exact ih (i + 1) L107 x106 h105 (by omega) Th105 Fh105 (fun j hj => ((ri_frr Ch105 (k := (b + 1)) (d := 28) hkb1 rfl (by decide +kernel))).trans (h3 j hj)) (fun j hj => ⟨((ri_frr Ch105 (k := (b + 3)) (d := 30) hkb3 rfl (by decide +kernel))).trans (h4 j hj).1, ((ri_frr Ch105 (k := (b + 4)) (d := 31) hkb4 rfl (by decide +kernel))).trans (h4 j hj).2.1, ((ri_frr Ch105 (k := (b + 5)) (d := 32) hkb5 rfl (by decide +kernel))).trans (h4 j hj).2.2⟩) (fun i2 hi2 => by
        by_cases q : i2 = i
        · rw [q, ← hKe]; exact ⟨y4, y5⟩
        · have q1 := h5 i2 (by omega)
          exact ⟨fun j hj => (oh105.1 (b + 16 + 2 * i2) (sh_told hb (by omega)) (by omega) j hj).trans (q1.1 j hj), fun j hj => (oh105.2 (b + 16 + 2 * i2 + 1) (sh_told1 hb (by omega)) (by omega) j).trans (q1.2 j hj)⟩) (by omega) gL107_0 gL107_1
theorem pc_l {h0 : cv_H} {b : Nat} (hb : b = 2 ∨ b = 26) (hpm : zPM b h0) (hrp : ∀ i, i < 4 → cw_at h0 (b + 16 + 2 * i) 16 = some (cv_r (b + 16 + 2 * i + 1))) (hQ : ∀ h', cw_T G h' → cw_Fr cw_Ds cw_sh kk_X4_clear.2.2.2.2.2.1 h0 h' → (∀ j, j < 12 → ri_at h' (b + 1) j = 50) → (∀ j, j < 4 → ri_at h' (b + 3) j = 0 ∧ ri_at h' (b + 4) j = 0 ∧ ri_at h' (b + 5) j = 0) → (∀ e, e < 4 → (∀ j, j < 16 → ri_at h' (b + 16 + 2 * e) j = z16.getD j 0) ∧ ∀ j, j < 9 → ri_at h' (b + 16 + 2 * e + 1) j = 0) → ri_at h' b 2 = 0 → ri_at h' b 3 = 0 → ri_at h' b 9 = 0 → ri_at h' b 14 = 0 → ri_at h' b 19 = 0 → Q (none, h')) : ∀ (u i : Nat) (L : cv_L) (I : Int32) (h : cv_H), i + u = 4 → cw_T G h → cw_Fr cw_Ds cw_sh kk_X4_clear.2.2.2.2.2.1 h0 h → (∀ j, j < 12 → ri_at h (b + 1) j = 50) → (∀ j, j < i → ri_at h (b + 3) j = 0 ∧ ri_at h (b + 4) j = 0 ∧ ri_at h (b + 5) j = 0) → I.toInt = i → cv_get L 0 = some (cv_r b) → cv_get L 1 = some (cv_i I) → cw_X X 49 Q 24 L [] h := by
  have hPM : ∀ h, cw_Fr cw_Ds cw_sh kk_X4_clear.2.2.2.2.2.1 h0 h → zPM b h := fun h F => zPM_fr hb F (by decide +kernel) hpm
  have hb4 : cw_sh[b]? = some 4 := by rcases hb with rfl | rfl <;> rfl
  have hkb1 : cw_sh[b + 1]? = some 28 := by rcases hb with rfl | rfl <;> rfl
  have hkb2 : cw_sh[b + 2]? = some 29 := by rcases hb with rfl | rfl <;> rfl
  have hkb3 : cw_sh[b + 3]? = some 30 := by rcases hb with rfl | rfl <;> rfl
  have hkb4 : cw_sh[b + 4]? = some 31 := by rcases hb with rfl | rfl <;> rfl
  have hkb5 : cw_sh[b + 5]? = some 32 := by rcases hb with rfl | rfl <;> rfl
  have hkb6 : cw_sh[b + 6]? = some 33 := by rcases hb with rfl | rfl <;> rfl
  have hkb7 : cw_sh[b + 7]? = some 34 := by rcases hb with rfl | rfl <;> rfl
  have hkb8 : cw_sh[b + 8]? = some 35 := by rcases hb with rfl | rfl <;> rfl
  have hkb9 : cw_sh[b + 9]? = some 36 := by rcases hb with rfl | rfl <;> rfl
  have hkb10 : cw_sh[b + 10]? = some 37 := by rcases hb with rfl | rfl <;> rfl
  have hkb11 : cw_sh[b + 11]? = some 38 := by rcases hb with rfl | rfl <;> rfl
  have hkb12 : cw_sh[b + 12]? = some 39 := by rcases hb with rfl | rfl <;> rfl
  have hkb13 : cw_sh[b + 13]? = some 40 := by rcases hb with rfl | rfl <;> rfl
  have hkb14 : cw_sh[b + 14]? = some 41 := by rcases hb with rfl | rfl <;> rfl
  have hkb15 : cw_sh[b + 15]? = some 42 := by rcases hb with rfl | rfl <;> rfl
  intro u
  induction u with
  | zero =>
    intro i L I h hiu hT Fh h3 h4 hI g0 g1
    refine ex_il oq_X4_clear_24 g1 ?_
    refine ex_ic oq_X4_clear_25 (m := 4) (by decide) (fun x101 hx101 => ?_)
    refine ex_if oq_X4_clear_26 (t := 56) rfl rfl (fun (c102 : x101.toInt ≤ I.toInt) => ?_) (fun (c102 : ¬ (x101.toInt ≤ I.toInt)) => ?_)
    · refine ex_ic oq_X4_clear_56 (m := 0) (by decide) (fun x103 hx103 => ?_)
      refine ex_isA oq_X4_clear_57 (fun L104 gL104_1 kL104 => ?_)
      have gL104_0 : cv_get L104 0 = some (cv_r b) := kL104 0 _ (by decide) (fun _ => rfl) g0
      exact pc_t hb hpm hrp hQ 4 0 L104 x103 h (by omega) hT Fh h3 (fun j hj => h4 j (by omega)) (fun i2 hi2 => absurd hi2 (Nat.not_lt_zero i2)) (by omega) gL104_0 gL104_1
    · exfalso; omega
  | succ u ih =>
    intro i L I h hiu hT Fh h3 h4 hI g0 g1
    refine ex_il oq_X4_clear_24 g1 ?_
    refine ex_ic oq_X4_clear_25 (m := 4) (by decide) (fun x101 hx101 => ?_)
    refine ex_if oq_X4_clear_26 (t := 56) rfl rfl (fun (c102 : x101.toInt ≤ I.toInt) => ?_) (fun (c102 : ¬ (x101.toInt ≤ I.toInt)) => ?_)
    · exfalso; omega
    · refine ex_al oq_X4_clear_29 g0 ?_
      refine ex_gf oq_X4_clear_30 hT (k := b) (d := 4) hb4 rfl ((show cw_at h b 4 = some (cv_r (b + 3)) from (hPM _ Fh).1 4 (by decide))) ?_
      refine ex_il oq_X4_clear_33 g1 ?_
      refine ex_ic oq_X4_clear_34 (m := 0) (by decide) (fun x103 hx103 => ?_)
      refine ex_iw1 oq_X4_clear_35 hT (k := (b + 3)) (d := 30) (j := i) hkb3 rfl (by omega) (by omega) ⟨(cw_i32 _).1, (cw_i32 _).2⟩ (fun h104 Th104 wh104 => ?_)
      have Fh104 : cw_Fr cw_Ds cw_sh kk_X4_clear.2.2.2.2.2.1 h0 h104 := cw_Fr_tr Fh (cw_Fr_wrr wh104 (k := (b + 3)) (d := 30) hkb3 rfl (by decide +kernel))
      refine ex_al oq_X4_clear_36 g0 ?_
      refine ex_gf oq_X4_clear_37 Th104 (k := b) (d := 4) hb4 rfl ((show cw_at h104 b 5 = some (cv_r (b + 4)) from (hPM _ Fh104).1 5 (by decide))) ?_
      refine ex_il oq_X4_clear_40 g1 ?_
      refine ex_ic oq_X4_clear_41 (m := 0) (by decide) (fun x105 hx105 => ?_)
      refine ex_iw1 oq_X4_clear_42 Th104 (k := (b + 4)) (d := 31) (j := i) hkb4 rfl (by omega) (by omega) ⟨(cw_i32 _).1, (cw_i32 _).2⟩ (fun h106 Th106 wh106 => ?_)
      have Fh106 : cw_Fr cw_Ds cw_sh kk_X4_clear.2.2.2.2.2.1 h0 h106 := cw_Fr_tr Fh104 (cw_Fr_wrr wh106 (k := (b + 4)) (d := 31) hkb4 rfl (by decide +kernel))
      refine ex_al oq_X4_clear_43 g0 ?_
      refine ex_gf oq_X4_clear_44 Th106 (k := b) (d := 4) hb4 rfl ((show cw_at h106 b 6 = some (cv_r (b + 5)) from (hPM _ Fh106).1 6 (by decide))) ?_
      refine ex_il oq_X4_clear_47 g1 ?_
      refine ex_ic oq_X4_clear_48 (m := 0) (by decide) (fun x107 hx107 => ?_)
      refine ex_iw1 oq_X4_clear_49 Th106 (k := (b + 5)) (d := 32) (j := i) hkb5 rfl (by omega) (by omega) ⟨(cw_i32 _).1, (cw_i32 _).2⟩ (fun h108 Th108 wh108 => ?_)
      have Fh108 : cw_Fr cw_Ds cw_sh kk_X4_clear.2.2.2.2.2.1 h0 h108 := cw_Fr_tr Fh106 (cw_Fr_wrr wh108 (k := (b + 5)) (d := 32) hkb5 rfl (by decide +kernel))
      refine ex_incA oq_X4_clear_50 (v := I) (m := 1) g1 (by decide) (by omega) (fun L110 x109 hx109 gL110_1 kL110 => ?_)
      have gL110_0 : cv_get L110 0 = some (cv_r b) := kL110 0 _ (by decide) (fun _ => rfl) g0
      refine ex_go oq_X4_clear_53 (t := 24) rfl rfl ?_
      exact ih (i + 1) L110 x109 h108 (by omega) Th108 Fh108 (fun j hj => (((ri_ne wh108 (.inl (cw_kne (k := (b + 1)) (d := 28) (k' := (b + 5)) (d' := 32) hkb1 hkb5 (by decide)))).trans ((ri_ne wh106 (.inl (cw_kne (k := (b + 1)) (d := 28) (k' := (b + 4)) (d' := 31) hkb1 hkb4 (by decide)))).trans (ri_ne wh104 (.inl (cw_kne (k := (b + 1)) (d := 28) (k' := (b + 3)) (d' := 30) hkb1 hkb3 (by decide))))))).trans (h3 j hj)) (fun j hj => by
        by_cases q : j = i
        · rw [q]; exact ⟨(((ri_ne wh108 (.inl (cw_kne (k := (b + 3)) (d := 30) (k' := (b + 5)) (d' := 32) hkb3 hkb5 (by decide)))).trans (ri_ne wh106 (.inl (cw_kne (k := (b + 3)) (d := 30) (k' := (b + 4)) (d' := 31) hkb3 hkb4 (by decide)))))).trans ((ri_self wh104).trans (by omega)), ((ri_ne wh108 (.inl (cw_kne (k := (b + 4)) (d := 31) (k' := (b + 5)) (d' := 32) hkb4 hkb5 (by decide))))).trans ((ri_self wh106).trans (by omega)), (rfl).trans ((ri_self wh108).trans (by omega))⟩
        · have q1 := h4 j (by omega)
          exact ⟨((((ri_ne wh108 (.inl (cw_kne (k := (b + 3)) (d := 30) (k' := (b + 5)) (d' := 32) hkb3 hkb5 (by decide)))).trans (ri_ne wh106 (.inl (cw_kne (k := (b + 3)) (d := 30) (k' := (b + 4)) (d' := 31) hkb3 hkb4 (by decide)))))).trans ((ri_ne wh104 (.inr q)).trans (rfl))).trans q1.1, (((ri_ne wh108 (.inl (cw_kne (k := (b + 4)) (d := 31) (k' := (b + 5)) (d' := 32) hkb4 hkb5 (by decide))))).trans ((ri_ne wh106 (.inr q)).trans ((ri_ne wh104 (.inl (cw_kne (k := (b + 4)) (d := 31) (k' := (b + 3)) (d' := 30) hkb4 hkb3 (by decide))))))).trans q1.2.1, ((rfl).trans ((ri_ne wh108 (.inr q)).trans (((ri_ne wh106 (.inl (cw_kne (k := (b + 5)) (d := 32) (k' := (b + 4)) (d' := 31) hkb5 hkb4 (by decide)))).trans (ri_ne wh104 (.inl (cw_kne (k := (b + 5)) (d := 32) (k' := (b + 3)) (d' := 30) hkb5 hkb3 (by decide)))))))).trans q1.2.2⟩) (by omega) gL110_0 gL110_1
theorem pc_g {h0 : cv_H} {b : Nat} (hb : b = 2 ∨ b = 26) (hpm : zPM b h0) (hrp : ∀ i, i < 4 → cw_at h0 (b + 16 + 2 * i) 16 = some (cv_r (b + 16 + 2 * i + 1))) (hQ : ∀ h', cw_T G h' → cw_Fr cw_Ds cw_sh kk_X4_clear.2.2.2.2.2.1 h0 h' → (∀ j, j < 12 → ri_at h' (b + 1) j = 50) → (∀ j, j < 4 → ri_at h' (b + 3) j = 0 ∧ ri_at h' (b + 4) j = 0 ∧ ri_at h' (b + 5) j = 0) → (∀ e, e < 4 → (∀ j, j < 16 → ri_at h' (b + 16 + 2 * e) j = z16.getD j 0) ∧ ∀ j, j < 9 → ri_at h' (b + 16 + 2 * e + 1) j = 0) → ri_at h' b 2 = 0 → ri_at h' b 3 = 0 → ri_at h' b 9 = 0 → ri_at h' b 14 = 0 → ri_at h' b 19 = 0 → Q (none, h')) : ∀ (u i : Nat) (L : cv_L) (I : Int32) (h : cv_H), i + u = 12 → cw_T G h → cw_Fr cw_Ds cw_sh kk_X4_clear.2.2.2.2.2.1 h0 h → (∀ j, j < i → ri_at h (b + 1) j = 50) → I.toInt = i → cv_get L 0 = some (cv_r b) → cv_get L 1 = some (cv_i I) → cw_X X 49 Q 2 L [] h := by
  have hPM : ∀ h, cw_Fr cw_Ds cw_sh kk_X4_clear.2.2.2.2.2.1 h0 h → zPM b h := fun h F => zPM_fr hb F (by decide +kernel) hpm
  have hb4 : cw_sh[b]? = some 4 := by rcases hb with rfl | rfl <;> rfl
  have hkb1 : cw_sh[b + 1]? = some 28 := by rcases hb with rfl | rfl <;> rfl
  have hkb2 : cw_sh[b + 2]? = some 29 := by rcases hb with rfl | rfl <;> rfl
  have hkb3 : cw_sh[b + 3]? = some 30 := by rcases hb with rfl | rfl <;> rfl
  have hkb4 : cw_sh[b + 4]? = some 31 := by rcases hb with rfl | rfl <;> rfl
  have hkb5 : cw_sh[b + 5]? = some 32 := by rcases hb with rfl | rfl <;> rfl
  have hkb6 : cw_sh[b + 6]? = some 33 := by rcases hb with rfl | rfl <;> rfl
  have hkb7 : cw_sh[b + 7]? = some 34 := by rcases hb with rfl | rfl <;> rfl
  have hkb8 : cw_sh[b + 8]? = some 35 := by rcases hb with rfl | rfl <;> rfl
  have hkb9 : cw_sh[b + 9]? = some 36 := by rcases hb with rfl | rfl <;> rfl
  have hkb10 : cw_sh[b + 10]? = some 37 := by rcases hb with rfl | rfl <;> rfl
  have hkb11 : cw_sh[b + 11]? = some 38 := by rcases hb with rfl | rfl <;> rfl
  have hkb12 : cw_sh[b + 12]? = some 39 := by rcases hb with rfl | rfl <;> rfl
  have hkb13 : cw_sh[b + 13]? = some 40 := by rcases hb with rfl | rfl <;> rfl
  have hkb14 : cw_sh[b + 14]? = some 41 := by rcases hb with rfl | rfl <;> rfl
  have hkb15 : cw_sh[b + 15]? = some 42 := by rcases hb with rfl | rfl <;> rfl
  intro u
  induction u with
  | zero =>
    intro i L I h hiu hT Fh h3 hI g0 g1
    refine ex_il oq_X4_clear_2 g1 ?_
    refine ex_bi oq_X4_clear_3 (m := 12) (by decide) (fun x101 hx101 => ?_)
    refine ex_if oq_X4_clear_5 (t := 22) rfl rfl (fun (c102 : x101.toInt ≤ I.toInt) => ?_) (fun (c102 : ¬ (x101.toInt ≤ I.toInt)) => ?_)
    · refine ex_ic oq_X4_clear_22 (m := 0) (by decide) (fun x103 hx103 => ?_)
      refine ex_isA oq_X4_clear_23 (fun L104 gL104_1 kL104 => ?_)
      have gL104_0 : cv_get L104 0 = some (cv_r b) := kL104 0 _ (by decide) (fun _ => rfl) g0
      exact pc_l hb hpm hrp hQ 4 0 L104 x103 h (by omega) hT Fh (fun j hj => h3 j (by omega)) (fun j hj => absurd hj (Nat.not_lt_zero j)) (by omega) gL104_0 gL104_1
    · exfalso; omega
  | succ u ih =>
    intro i L I h hiu hT Fh h3 hI g0 g1
    refine ex_il oq_X4_clear_2 g1 ?_
    refine ex_bi oq_X4_clear_3 (m := 12) (by decide) (fun x101 hx101 => ?_)
    refine ex_if oq_X4_clear_5 (t := 22) rfl rfl (fun (c102 : x101.toInt ≤ I.toInt) => ?_) (fun (c102 : ¬ (x101.toInt ≤ I.toInt)) => ?_)
    · exfalso; omega
    · refine ex_al oq_X4_clear_8 g0 ?_
      refine ex_gf oq_X4_clear_9 hT (k := b) (d := 4) hb4 rfl ((show cw_at h b 0 = some (cv_r (b + 1)) from (hPM _ Fh).1 0 (by decide))) ?_
      refine ex_il oq_X4_clear_12 g1 ?_
      refine ex_bi oq_X4_clear_13 (m := 50) (by decide) (fun x103 hx103 => ?_)
      refine ex_iw1 oq_X4_clear_15 hT (k := (b + 1)) (d := 28) (j := i) hkb1 rfl (by omega) (by omega) ⟨(cw_i32 _).1, (cw_i32 _).2⟩ (fun h104 Th104 wh104 => ?_)
      have Fh104 : cw_Fr cw_Ds cw_sh kk_X4_clear.2.2.2.2.2.1 h0 h104 := cw_Fr_tr Fh (cw_Fr_wrr wh104 (k := (b + 1)) (d := 28) hkb1 rfl (by decide +kernel))
      refine ex_incA oq_X4_clear_16 (v := I) (m := 1) g1 (by decide) (by omega) (fun L106 x105 hx105 gL106_1 kL106 => ?_)
      have gL106_0 : cv_get L106 0 = some (cv_r b) := kL106 0 _ (by decide) (fun _ => rfl) g0
      refine ex_go oq_X4_clear_19 (t := 2) rfl rfl ?_
      exact ih (i + 1) L106 x105 h104 (by omega) Th104 Fh104 (fun j hj => by
        by_cases q : j = i
        · rw [q]; exact (rfl).trans ((ri_self wh104).trans (by omega))
        · exact (rfl).trans ((ri_ne wh104 (.inr q)).trans ((rfl).trans (h3 j (by omega))))) (by omega) gL106_0 gL106_1
theorem ct_planD {h0 : cv_H} (hT : cw_T G h0) {b : Nat} (hb : b = 2 ∨ b = 26) (hpm : zPM b h0) (hrp : ∀ i, i < 4 → cw_at h0 (b + 16 + 2 * i) 16 = some (cv_r (b + 16 + 2 * i + 1))) (hQ : ∀ h', cw_T G h' → cw_Fr cw_Ds cw_sh kk_X4_clear.2.2.2.2.2.1 h0 h' → (∀ j, j < 12 → ri_at h' (b + 1) j = 50) → (∀ j, j < 4 → ri_at h' (b + 3) j = 0 ∧ ri_at h' (b + 4) j = 0 ∧ ri_at h' (b + 5) j = 0) → (∀ e, e < 4 → (∀ j, j < 16 → ri_at h' (b + 16 + 2 * e) j = z16.getD j 0) ∧ ∀ j, j < 9 → ri_at h' (b + 16 + 2 * e + 1) j = 0) → ri_at h' b 2 = 0 → ri_at h' b 3 = 0 → ri_at h' b 9 = 0 → ri_at h' b 14 = 0 → ri_at h' b 19 = 0 → Q (none, h')) : cw_X X 49 Q 0 (cv_ent 0 [cv_r b]) [] h0 := by
  have Fh0 : cw_Fr cw_Ds cw_sh kk_X4_clear.2.2.2.2.2.1 h0 h0 := cw_Fr_refl
  have hPM : ∀ h, cw_Fr cw_Ds cw_sh kk_X4_clear.2.2.2.2.2.1 h0 h → zPM b h := fun h F => zPM_fr hb F (by decide +kernel) hpm
  have hb4 : cw_sh[b]? = some 4 := by rcases hb with rfl | rfl <;> rfl
  have hkb1 : cw_sh[b + 1]? = some 28 := by rcases hb with rfl | rfl <;> rfl
  have hkb2 : cw_sh[b + 2]? = some 29 := by rcases hb with rfl | rfl <;> rfl
  have hkb3 : cw_sh[b + 3]? = some 30 := by rcases hb with rfl | rfl <;> rfl
  have hkb4 : cw_sh[b + 4]? = some 31 := by rcases hb with rfl | rfl <;> rfl
  have hkb5 : cw_sh[b + 5]? = some 32 := by rcases hb with rfl | rfl <;> rfl
  have hkb6 : cw_sh[b + 6]? = some 33 := by rcases hb with rfl | rfl <;> rfl
  have hkb7 : cw_sh[b + 7]? = some 34 := by rcases hb with rfl | rfl <;> rfl
  have hkb8 : cw_sh[b + 8]? = some 35 := by rcases hb with rfl | rfl <;> rfl
  have hkb9 : cw_sh[b + 9]? = some 36 := by rcases hb with rfl | rfl <;> rfl
  have hkb10 : cw_sh[b + 10]? = some 37 := by rcases hb with rfl | rfl <;> rfl
  have hkb11 : cw_sh[b + 11]? = some 38 := by rcases hb with rfl | rfl <;> rfl
  have hkb12 : cw_sh[b + 12]? = some 39 := by rcases hb with rfl | rfl <;> rfl
  have hkb13 : cw_sh[b + 13]? = some 40 := by rcases hb with rfl | rfl <;> rfl
  have hkb14 : cw_sh[b + 14]? = some 41 := by rcases hb with rfl | rfl <;> rfl
  have hkb15 : cw_sh[b + 15]? = some 42 := by rcases hb with rfl | rfl <;> rfl
  refine ex_ic oq_X4_clear_0 (m := 0) (by decide) (fun x101 hx101 => ?_)
  refine ex_isA oq_X4_clear_1 (fun L102 gL102_1 kL102 => ?_)
  have gL102_0 : cv_get L102 0 = some (cv_r b) := kL102 0 _ (by decide) (fun _ => rfl) rfl
  exact pc_g hb hpm hrp hQ 12 0 L102 x101 h0 (by omega) hT Fh0 (fun j hj => absurd hj (Nat.not_lt_zero j)) (by omega) gL102_0 gL102_1
end TZ
