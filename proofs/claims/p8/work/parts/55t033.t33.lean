/-! ===== a plan made plain: the class ===== -/
section TZ
variable {G : Int} {X : cv_X} {Q : cv_O → Prop} {t : Nat → Int}
theorem oq_X7_clear_0 : cw_ho 86 0 (.aload_n 0) 1 0 0 0 := rfl
theorem oq_X7_clear_1 : cw_ho 86 1 (.bipush 24) 2 0 0 0 := rfl
theorem oq_X7_clear_3 : cw_ho 86 3 (.putfield 18) 3 7 0 0 := rfl
theorem oq_X7_clear_6 : cw_ho 86 6 (.aload_n 0) 1 0 0 0 := rfl
theorem oq_X7_clear_7 : cw_ho 86 7 (.bipush 20) 2 0 0 0 := rfl
theorem oq_X7_clear_9 : cw_ho 86 9 (.putfield 22) 3 7 2 0 := rfl
theorem oq_X7_clear_12 : cw_ho 86 12 (.aload_n 0) 1 0 0 0 := rfl
theorem oq_X7_clear_13 : cw_ho 86 13 (.bipush 24) 2 0 0 0 := rfl
theorem oq_X7_clear_15 : cw_ho 86 15 (.invokevirtual 25) 3 87 1 7 := rfl
theorem oq_X7_clear_18 : cw_ho 86 18 (.aload_n 0) 1 0 0 0 := rfl
theorem oq_X7_clear_19 : cw_ho 86 19 (.iconst 0) 1 0 0 0 := rfl
theorem oq_X7_clear_20 : cw_ho 86 20 (.putfield 29) 3 7 5 0 := rfl
theorem oq_X7_clear_23 : cw_ho 86 23 (.aload_n 0) 1 0 0 0 := rfl
theorem oq_X7_clear_24 : cw_ho 86 24 (.iconst 0) 1 0 0 0 := rfl
theorem oq_X7_clear_25 : cw_ho 86 25 (.putfield 32) 3 7 6 0 := rfl
theorem oq_X7_clear_28 : cw_ho 86 28 (.aload_n 0) 1 0 0 0 := rfl
theorem oq_X7_clear_29 : cw_ho 86 29 (.bipush 36) 2 0 0 0 := rfl
theorem oq_X7_clear_31 : cw_ho 86 31 (.putfield 35) 3 7 7 0 := rfl
theorem oq_X7_clear_34 : cw_ho 86 34 (.aload_n 0) 1 0 0 0 := rfl
theorem oq_X7_clear_35 : cw_ho 86 35 (.bipush 8) 2 0 0 0 := rfl
theorem oq_X7_clear_37 : cw_ho 86 37 (.putfield 38) 3 7 8 0 := rfl
theorem oq_X7_clear_40 : cw_ho 86 40 (.aload_n 0) 1 0 0 0 := rfl
theorem oq_X7_clear_41 : cw_ho 86 41 (.iconst 0) 1 0 0 0 := rfl
theorem oq_X7_clear_42 : cw_ho 86 42 (.putfield 41) 3 7 9 0 := rfl
theorem oq_X7_clear_45 : cw_ho 86 45 (.aload_n 0) 1 0 0 0 := rfl
theorem oq_X7_clear_46 : cw_ho 86 46 (.sipush 1000) 3 0 0 0 := rfl
theorem oq_X7_clear_49 : cw_ho 86 49 (.putfield 44) 3 7 10 0 := rfl
theorem oq_X7_clear_52 : cw_ho 86 52 (.aload_n 0) 1 0 0 0 := rfl
theorem oq_X7_clear_53 : cw_ho 86 53 (.sipush 1000) 3 0 0 0 := rfl
theorem oq_X7_clear_56 : cw_ho 86 56 (.putfield 47) 3 7 11 0 := rfl
theorem oq_X7_clear_59 : cw_ho 86 59 (.aload_n 0) 1 0 0 0 := rfl
theorem oq_X7_clear_60 : cw_ho 86 60 (.iconst 0) 1 0 0 0 := rfl
theorem oq_X7_clear_61 : cw_ho 86 61 (.putfield 50) 3 7 12 0 := rfl
theorem oq_X7_clear_64 : cw_ho 86 64 (.aload_n 0) 1 0 0 0 := rfl
theorem oq_X7_clear_65 : cw_ho 86 65 (.sipush 3000) 3 0 0 0 := rfl
theorem oq_X7_clear_68 : cw_ho 86 68 (.putfield 53) 3 7 13 0 := rfl
theorem oq_X7_clear_71 : cw_ho 86 71 (.aload_n 0) 1 0 0 0 := rfl
theorem oq_X7_clear_72 : cw_ho 86 72 (.iconst 0) 1 0 0 0 := rfl
theorem oq_X7_clear_73 : cw_ho 86 73 (.putfield 56) 3 7 14 0 := rfl
theorem oq_X7_clear_76 : cw_ho 86 76 (.aload_n 0) 1 0 0 0 := rfl
theorem oq_X7_clear_77 : cw_ho 86 77 (.iconst 0) 1 0 0 0 := rfl
theorem oq_X7_clear_78 : cw_ho 86 78 (.putfield 59) 3 7 15 0 := rfl
theorem oq_X7_clear_81 : cw_ho 86 81 (.iconst 0) 1 0 0 0 := rfl
theorem oq_X7_clear_82 : cw_ho 86 82 (.istore_n 1) 1 0 0 0 := rfl
theorem oq_X7_clear_83 : cw_ho 86 83 (.iload_n 1) 1 0 0 0 := rfl
theorem oq_X7_clear_84 : cw_ho 86 84 (.aload_n 0) 1 0 0 0 := rfl
theorem oq_X7_clear_85 : cw_ho 86 85 (.getfield 9) 3 7 16 4 := rfl
theorem oq_X7_clear_88 : cw_ho 86 88 (.arraylength) 1 0 0 0 := rfl
theorem oq_X7_clear_89 : cw_ho 86 89 (.if_icmp .ge 16) 3 0 0 0 := rfl
theorem oq_X7_clear_92 : cw_ho 86 92 (.aload_n 0) 1 0 0 0 := rfl
theorem oq_X7_clear_93 : cw_ho 86 93 (.getfield 9) 3 7 16 4 := rfl
theorem oq_X7_clear_96 : cw_ho 86 96 (.iload_n 1) 1 0 0 0 := rfl
theorem oq_X7_clear_97 : cw_ho 86 97 (.iconst 0) 1 0 0 0 := rfl
theorem oq_X7_clear_98 : cw_ho 86 98 (.iastore) 1 0 0 0 := rfl
theorem oq_X7_clear_99 : cw_ho 86 99 (.iinc 1 1) 3 0 0 0 := rfl
theorem oq_X7_clear_102 : cw_ho 86 102 (.goto (-19)) 3 0 0 0 := rfl
theorem oq_X7_clear_105 : cw_ho 86 105 (.return_) 1 0 0 0 := rfl
theorem cl_7 {h0 : cv_H} {K : Nat} (hK7 : cw_sh[K]? = some 7) (hQ : ∀ h', cw_T G h' → cw_Fr cw_Ds cw_sh kk_X7_clear.2.2.2.2.2.1 h0 h' → zOT K h0 h' → ri_at h' K 14 = 0 → ri_at h' K 15 = 0 → Q (none, h')) : ∀ (u i : Nat) (L : cv_L) (I : Int32) (h : cv_H), i + u = 9 → cw_T G h → cw_Fr cw_Ds cw_sh kk_X7_clear.2.2.2.2.2.1 h0 h → zOT K h0 h → ri_at h K 14 = 0 → ri_at h K 15 = 0 → I.toInt = i → cv_get L 0 = some (cv_r K) → cv_get L 1 = some (cv_i I) → cw_X X 86 Q 83 L [] h := by
  intro u
  induction u with
  | zero =>
    intro i L I h hiu hT Fh hOT h14 h15 hI g0 g1
    refine ex_il oq_X7_clear_83 g1 ?_
    refine ex_al oq_X7_clear_84 g0 ?_
    obtain ⟨k101, ak101, sk101⟩ := ri_refs (k := K) (d := 7) (f := 16) hT hK7 rfl rfl (by decide)
    refine ex_gf oq_X7_clear_85 hT (k := K) (d := 7) hK7 rfl ak101 ?_
    refine ex_len oq_X7_clear_88 hT (k := k101) (d := 44) sk101 rfl (by decide) (fun x102 hx102 => ?_)
    refine ex_if oq_X7_clear_89 (t := 105) rfl rfl (fun (c103 : x102.toInt ≤ I.toInt) => ?_) (fun (c103 : ¬ (x102.toInt ≤ I.toInt)) => ?_)
    · exact ex_retv oq_X7_clear_105 rfl (hQ h hT Fh hOT h14 h15)
    · exfalso; omega
  | succ u ih =>
    intro i L I h hiu hT Fh hOT h14 h15 hI g0 g1
    refine ex_il oq_X7_clear_83 g1 ?_
    refine ex_al oq_X7_clear_84 g0 ?_
    obtain ⟨k101, ak101, sk101⟩ := ri_refs (k := K) (d := 7) (f := 16) hT hK7 rfl rfl (by decide)
    refine ex_gf oq_X7_clear_85 hT (k := K) (d := 7) hK7 rfl ak101 ?_
    refine ex_len oq_X7_clear_88 hT (k := k101) (d := 44) sk101 rfl (by decide) (fun x102 hx102 => ?_)
    refine ex_if oq_X7_clear_89 (t := 105) rfl rfl (fun (c103 : x102.toInt ≤ I.toInt) => ?_) (fun (c103 : ¬ (x102.toInt ≤ I.toInt)) => ?_)
    · exfalso; omega
    · refine ex_al oq_X7_clear_92 g0 ?_
      obtain ⟨k104, ak104, sk104⟩ := ri_refs (k := K) (d := 7) (f := 16) hT hK7 rfl rfl (by decide)
      refine ex_gf oq_X7_clear_93 hT (k := K) (d := 7) hK7 rfl ak104 ?_
      refine ex_il oq_X7_clear_96 g1 ?_
      refine ex_ic oq_X7_clear_97 (m := 0) (by decide) (fun x105 hx105 => ?_)
      refine ex_iw1 oq_X7_clear_98 hT (k := k104) (d := 44) (j := i) sk104 rfl (by omega) (by omega) ⟨(cw_i32 _).1, (cw_i32 _).2⟩ (fun h106 Th106 wh106 => ?_)
      have Fh106 : cw_Fr cw_Ds cw_sh kk_X7_clear.2.2.2.2.2.1 h0 h106 := cw_Fr_tr Fh (cw_Fr_wrr wh106 (k := k104) (d := 44) sk104 rfl (by decide +kernel))
      have eh106_K_14 : ri_at h106 K 14 = 0 := (ri_ne wh106 (.inl (cw_kne (k := K) (d := 7) (k' := k104) (d' := 44) hK7 sk104 (by decide)))).trans h14
      have eh106_K_15 : ri_at h106 K 15 = 0 := (ri_ne wh106 (.inl (cw_kne (k := K) (d := 7) (k' := k104) (d' := 44) hK7 sk104 (by decide)))).trans h15
      have Oh106 := zOT_d (d := 44) (k := k104) wh106 sk104 (by decide) hOT
      refine ex_incA oq_X7_clear_99 (v := I) (m := 1) g1 (by decide) (by omega) (fun L108 x107 hx107 gL108_1 kL108 => ?_)
      have gL108_0 : cv_get L108 0 = some (cv_r K) := kL108 0 _ (by decide) (fun _ => rfl) g0
      refine ex_go oq_X7_clear_102 (t := 83) rfl rfl ?_
      exact ih (i + 1) L108 x107 h106 (by omega) Th106 Fh106 Oh106 eh106_K_14 eh106_K_15 (by omega) gL108_0 gL108_1
theorem ct_clear7 {h0 : cv_H} (hT : cw_T G h0) {K : Nat} (hK7 : cw_sh[K]? = some 7) (hQ : ∀ h', cw_T G h' → cw_Fr cw_Ds cw_sh kk_X7_clear.2.2.2.2.2.1 h0 h' → zOT K h0 h' → ri_at h' K 14 = 0 → ri_at h' K 15 = 0 → Q (none, h')) : cw_X X 86 Q 0 (cv_ent 0 [cv_r K]) [] h0 := by
  have Fh0 : cw_Fr cw_Ds cw_sh kk_X7_clear.2.2.2.2.2.1 h0 h0 := cw_Fr_refl
  have hOT : zOT K h0 h0 := zOT_0
  refine ex_al oq_X7_clear_0 rfl ?_
  refine ex_bi oq_X7_clear_1 (m := 24) (by decide) (fun x301 hx301 => ?_)
  refine ex_pfi oq_X7_clear_3 hT (k := K) (d := 7) hK7 rfl rfl (cw_i32 _).1 (cw_i32 _).2 (fun h302 Th302 wh302 => ?_)
  have Fh302 : cw_Fr cw_Ds cw_sh kk_X7_clear.2.2.2.2.2.1 h0 h302 := cw_Fr_tr Fh0 (cw_Fr_wrf wh302 (k := K) (d := 7) hK7 rfl (by decide +kernel))
  have eh302_K_14 : ri_at h302 K 14 = ri_at h0 K 14 := ri_ne wh302 (.inr (by decide))
  have eh302_K_15 : ri_at h302 K 15 = ri_at h0 K 15 := ri_ne wh302 (.inr (by decide))
  have Oh302 := zOT_K wh302 hOT
  refine ex_al oq_X7_clear_6 rfl ?_
  refine ex_bi oq_X7_clear_7 (m := 20) (by decide) (fun x303 hx303 => ?_)
  refine ex_pfi oq_X7_clear_9 Th302 (k := K) (d := 7) hK7 rfl rfl (cw_i32 _).1 (cw_i32 _).2 (fun h304 Th304 wh304 => ?_)
  have Fh304 : cw_Fr cw_Ds cw_sh kk_X7_clear.2.2.2.2.2.1 h0 h304 := cw_Fr_tr Fh302 (cw_Fr_wrf wh304 (k := K) (d := 7) hK7 rfl (by decide +kernel))
  have eh304_K_14 : ri_at h304 K 14 = ri_at h0 K 14 := (ri_ne wh304 (.inr (by decide))).trans eh302_K_14
  clear eh302_K_14
  have eh304_K_15 : ri_at h304 K 15 = ri_at h0 K 15 := (ri_ne wh304 (.inr (by decide))).trans eh302_K_15
  clear eh302_K_15
  have Oh304 := zOT_K wh304 Oh302
  clear Oh302
  refine ex_al oq_X7_clear_12 rfl ?_
  refine ex_bi oq_X7_clear_13 (m := 24) (by decide) (fun x305 hx305 => ?_)
  refine ex_cv oq_X7_clear_15 (by decide) Th304 (k := K) (d := 7) (as := [cv_i x305]) (stk := []) hK7 rfl rfl rfl rfl rfl ⟨rfl, rfl⟩ (R := fun o => ∃ hb : cv_H, o = (none, hb) ∧ cw_T G hb ∧ cw_Fr cw_Ds cw_sh kk_X7_setHeight.2.2.2.2.2.1 h304 hb) (ct_setHeight Th304 hK7 (by omega) (by omega) (fun hb b1 b2 b3 => ⟨hb, rfl, b1, b2⟩)) (fun o ho => ?_)
  obtain ⟨h306, rfl, Th306, Ch306⟩ := ho
  show cw_X _ _ _ _ _ [] h306
  have Fh306 : cw_Fr cw_Ds cw_sh kk_X7_clear.2.2.2.2.2.1 h0 h306 := cw_Fr_tr Fh304 (cw_Fr_mono (by decide +kernel) Ch306)
  have eh306_K_14 : ri_at h306 K 14 = ri_at h0 K 14 := (ri_frf Ch306 (k := K) (d := 7) hK7 rfl (by decide +kernel)).trans eh304_K_14
  clear eh304_K_14
  have eh306_K_15 : ri_at h306 K 15 = ri_at h0 K 15 := (ri_frf Ch306 (k := K) (d := 7) hK7 rfl (by decide +kernel)).trans eh304_K_15
  clear eh304_K_15
  have Oh306 := zOT_fr Ch306 (by decide +kernel) Oh304
  clear Oh304
  refine ex_al oq_X7_clear_18 rfl ?_
  refine ex_ic oq_X7_clear_19 (m := 0) (by decide) (fun x307 hx307 => ?_)
  refine ex_pfi oq_X7_clear_20 Th306 (k := K) (d := 7) hK7 rfl rfl (cw_i32 _).1 (cw_i32 _).2 (fun h308 Th308 wh308 => ?_)
  have Fh308 : cw_Fr cw_Ds cw_sh kk_X7_clear.2.2.2.2.2.1 h0 h308 := cw_Fr_tr Fh306 (cw_Fr_wrf wh308 (k := K) (d := 7) hK7 rfl (by decide +kernel))
  have eh308_K_14 : ri_at h308 K 14 = ri_at h0 K 14 := (ri_ne wh308 (.inr (by decide))).trans eh306_K_14
  clear eh306_K_14
  have eh308_K_15 : ri_at h308 K 15 = ri_at h0 K 15 := (ri_ne wh308 (.inr (by decide))).trans eh306_K_15
  clear eh306_K_15
  have Oh308 := zOT_K wh308 Oh306
  clear Oh306
  refine ex_al oq_X7_clear_23 rfl ?_
  refine ex_ic oq_X7_clear_24 (m := 0) (by decide) (fun x309 hx309 => ?_)
  refine ex_pfi oq_X7_clear_25 Th308 (k := K) (d := 7) hK7 rfl rfl (cw_i32 _).1 (cw_i32 _).2 (fun h310 Th310 wh310 => ?_)
  have Fh310 : cw_Fr cw_Ds cw_sh kk_X7_clear.2.2.2.2.2.1 h0 h310 := cw_Fr_tr Fh308 (cw_Fr_wrf wh310 (k := K) (d := 7) hK7 rfl (by decide +kernel))
  have eh310_K_14 : ri_at h310 K 14 = ri_at h0 K 14 := (ri_ne wh310 (.inr (by decide))).trans eh308_K_14
  clear eh308_K_14
  have eh310_K_15 : ri_at h310 K 15 = ri_at h0 K 15 := (ri_ne wh310 (.inr (by decide))).trans eh308_K_15
  clear eh308_K_15
  have Oh310 := zOT_K wh310 Oh308
  clear Oh308
  refine ex_al oq_X7_clear_28 rfl ?_
  refine ex_bi oq_X7_clear_29 (m := 36) (by decide) (fun x311 hx311 => ?_)
  refine ex_pfi oq_X7_clear_31 Th310 (k := K) (d := 7) hK7 rfl rfl (cw_i32 _).1 (cw_i32 _).2 (fun h312 Th312 wh312 => ?_)
  have Fh312 : cw_Fr cw_Ds cw_sh kk_X7_clear.2.2.2.2.2.1 h0 h312 := cw_Fr_tr Fh310 (cw_Fr_wrf wh312 (k := K) (d := 7) hK7 rfl (by decide +kernel))
  have eh312_K_14 : ri_at h312 K 14 = ri_at h0 K 14 := (ri_ne wh312 (.inr (by decide))).trans eh310_K_14
  clear eh310_K_14
  have eh312_K_15 : ri_at h312 K 15 = ri_at h0 K 15 := (ri_ne wh312 (.inr (by decide))).trans eh310_K_15
  clear eh310_K_15
  have Oh312 := zOT_K wh312 Oh310
  clear Oh310
  refine ex_al oq_X7_clear_34 rfl ?_
  refine ex_bi oq_X7_clear_35 (m := 8) (by decide) (fun x313 hx313 => ?_)
  refine ex_pfi oq_X7_clear_37 Th312 (k := K) (d := 7) hK7 rfl rfl (cw_i32 _).1 (cw_i32 _).2 (fun h314 Th314 wh314 => ?_)
  have Fh314 : cw_Fr cw_Ds cw_sh kk_X7_clear.2.2.2.2.2.1 h0 h314 := cw_Fr_tr Fh312 (cw_Fr_wrf wh314 (k := K) (d := 7) hK7 rfl (by decide +kernel))
  have eh314_K_14 : ri_at h314 K 14 = ri_at h0 K 14 := (ri_ne wh314 (.inr (by decide))).trans eh312_K_14
  clear eh312_K_14
  have eh314_K_15 : ri_at h314 K 15 = ri_at h0 K 15 := (ri_ne wh314 (.inr (by decide))).trans eh312_K_15
  clear eh312_K_15
  have Oh314 := zOT_K wh314 Oh312
  clear Oh312
  refine ex_al oq_X7_clear_40 rfl ?_
  refine ex_ic oq_X7_clear_41 (m := 0) (by decide) (fun x315 hx315 => ?_)
  refine ex_pfi oq_X7_clear_42 Th314 (k := K) (d := 7) hK7 rfl rfl (cw_i32 _).1 (cw_i32 _).2 (fun h316 Th316 wh316 => ?_)
  have Fh316 : cw_Fr cw_Ds cw_sh kk_X7_clear.2.2.2.2.2.1 h0 h316 := cw_Fr_tr Fh314 (cw_Fr_wrf wh316 (k := K) (d := 7) hK7 rfl (by decide +kernel))
  have eh316_K_14 : ri_at h316 K 14 = ri_at h0 K 14 := (ri_ne wh316 (.inr (by decide))).trans eh314_K_14
  clear eh314_K_14
  have eh316_K_15 : ri_at h316 K 15 = ri_at h0 K 15 := (ri_ne wh316 (.inr (by decide))).trans eh314_K_15
  clear eh314_K_15
  have Oh316 := zOT_K wh316 Oh314
  clear Oh314
  refine ex_al oq_X7_clear_45 rfl ?_
  refine ex_si oq_X7_clear_46 (m := 1000) (by decide) (fun x317 hx317 => ?_)
  refine ex_pfi oq_X7_clear_49 Th316 (k := K) (d := 7) hK7 rfl rfl (cw_i32 _).1 (cw_i32 _).2 (fun h318 Th318 wh318 => ?_)
  have Fh318 : cw_Fr cw_Ds cw_sh kk_X7_clear.2.2.2.2.2.1 h0 h318 := cw_Fr_tr Fh316 (cw_Fr_wrf wh318 (k := K) (d := 7) hK7 rfl (by decide +kernel))
  have eh318_K_14 : ri_at h318 K 14 = ri_at h0 K 14 := (ri_ne wh318 (.inr (by decide))).trans eh316_K_14
  clear eh316_K_14
  have eh318_K_15 : ri_at h318 K 15 = ri_at h0 K 15 := (ri_ne wh318 (.inr (by decide))).trans eh316_K_15
  clear eh316_K_15
  have Oh318 := zOT_K wh318 Oh316
  clear Oh316
  refine ex_al oq_X7_clear_52 rfl ?_
  refine ex_si oq_X7_clear_53 (m := 1000) (by decide) (fun x319 hx319 => ?_)
  refine ex_pfi oq_X7_clear_56 Th318 (k := K) (d := 7) hK7 rfl rfl (cw_i32 _).1 (cw_i32 _).2 (fun h320 Th320 wh320 => ?_)
  have Fh320 : cw_Fr cw_Ds cw_sh kk_X7_clear.2.2.2.2.2.1 h0 h320 := cw_Fr_tr Fh318 (cw_Fr_wrf wh320 (k := K) (d := 7) hK7 rfl (by decide +kernel))
  have eh320_K_14 : ri_at h320 K 14 = ri_at h0 K 14 := (ri_ne wh320 (.inr (by decide))).trans eh318_K_14
  clear eh318_K_14
  have eh320_K_15 : ri_at h320 K 15 = ri_at h0 K 15 := (ri_ne wh320 (.inr (by decide))).trans eh318_K_15
  clear eh318_K_15
  have Oh320 := zOT_K wh320 Oh318
  clear Oh318
  refine ex_al oq_X7_clear_59 rfl ?_
  refine ex_ic oq_X7_clear_60 (m := 0) (by decide) (fun x321 hx321 => ?_)
  refine ex_pfi oq_X7_clear_61 Th320 (k := K) (d := 7) hK7 rfl rfl (cw_i32 _).1 (cw_i32 _).2 (fun h322 Th322 wh322 => ?_)
  have Fh322 : cw_Fr cw_Ds cw_sh kk_X7_clear.2.2.2.2.2.1 h0 h322 := cw_Fr_tr Fh320 (cw_Fr_wrf wh322 (k := K) (d := 7) hK7 rfl (by decide +kernel))
  have eh322_K_14 : ri_at h322 K 14 = ri_at h0 K 14 := (ri_ne wh322 (.inr (by decide))).trans eh320_K_14
  clear eh320_K_14
  have eh322_K_15 : ri_at h322 K 15 = ri_at h0 K 15 := (ri_ne wh322 (.inr (by decide))).trans eh320_K_15
  clear eh320_K_15
  have Oh322 := zOT_K wh322 Oh320
  clear Oh320
  refine ex_al oq_X7_clear_64 rfl ?_
  refine ex_si oq_X7_clear_65 (m := 3000) (by decide) (fun x323 hx323 => ?_)
  refine ex_pfi oq_X7_clear_68 Th322 (k := K) (d := 7) hK7 rfl rfl (cw_i32 _).1 (cw_i32 _).2 (fun h324 Th324 wh324 => ?_)
  have Fh324 : cw_Fr cw_Ds cw_sh kk_X7_clear.2.2.2.2.2.1 h0 h324 := cw_Fr_tr Fh322 (cw_Fr_wrf wh324 (k := K) (d := 7) hK7 rfl (by decide +kernel))
  have eh324_K_14 : ri_at h324 K 14 = ri_at h0 K 14 := (ri_ne wh324 (.inr (by decide))).trans eh322_K_14
  clear eh322_K_14
  have eh324_K_15 : ri_at h324 K 15 = ri_at h0 K 15 := (ri_ne wh324 (.inr (by decide))).trans eh322_K_15
  clear eh322_K_15
  have Oh324 := zOT_K wh324 Oh322
  clear Oh322
  refine ex_al oq_X7_clear_71 rfl ?_
  refine ex_ic oq_X7_clear_72 (m := 0) (by decide) (fun x325 hx325 => ?_)
  refine ex_pfi oq_X7_clear_73 Th324 (k := K) (d := 7) hK7 rfl rfl (cw_i32 _).1 (cw_i32 _).2 (fun h326 Th326 wh326 => ?_)
  have Fh326 : cw_Fr cw_Ds cw_sh kk_X7_clear.2.2.2.2.2.1 h0 h326 := cw_Fr_tr Fh324 (cw_Fr_wrf wh326 (k := K) (d := 7) hK7 rfl (by decide +kernel))
  have eh326_K_14 : ri_at h326 K 14 = x325.toInt := ri_self wh326
  have eh326_K_15 : ri_at h326 K 15 = ri_at h0 K 15 := (ri_ne wh326 (.inr (by decide))).trans eh324_K_15
  clear eh324_K_15
  have Oh326 := zOT_K wh326 Oh324
  clear Oh324
  refine ex_al oq_X7_clear_76 rfl ?_
  refine ex_ic oq_X7_clear_77 (m := 0) (by decide) (fun x327 hx327 => ?_)
  refine ex_pfi oq_X7_clear_78 Th326 (k := K) (d := 7) hK7 rfl rfl (cw_i32 _).1 (cw_i32 _).2 (fun h328 Th328 wh328 => ?_)
  have Fh328 : cw_Fr cw_Ds cw_sh kk_X7_clear.2.2.2.2.2.1 h0 h328 := cw_Fr_tr Fh326 (cw_Fr_wrf wh328 (k := K) (d := 7) hK7 rfl (by decide +kernel))
  have eh328_K_14 : ri_at h328 K 14 = x325.toInt := (ri_ne wh328 (.inr (by decide))).trans eh326_K_14
  clear eh326_K_14
  have eh328_K_15 : ri_at h328 K 15 = x327.toInt := ri_self wh328
  have Oh328 := zOT_K wh328 Oh326
  clear Oh326
  refine ex_ic oq_X7_clear_81 (m := 0) (by decide) (fun x329 hx329 => ?_)
  refine ex_isA oq_X7_clear_82 (fun L330 gL330_1 kL330 => ?_)
  have gL330_0 : cv_get L330 0 = some (cv_r K) := kL330 0 _ (by decide) (fun _ => rfl) rfl
  exact cl_7 hK7 hQ 9 0 L330 x329 h328 (by omega) Th328 Fh328 Oh328 (by omega) (by omega) (by omega) gL330_0 gL330_1
/-- the parts of a plan, wherever the reader stands -/
def zPM (b : Nat) (h : cv_H) : Prop := (∀ i, i ∈ [0, 1, 4, 5, 6, 7, 8, 10, 11, 12, 13, 15, 16, 17, 18] → cw_at h b i = some (cv_r (b + zps i))) ∧ ∀ i, i < 4 → cw_at h (b + 6) i = some (cv_r (b + 16 + 2 * i))
theorem zPM_fr {b m : Nat} {h h' : cv_H} (hb : b = 2 ∨ b = 26) (C : cw_Fr cw_Ds cw_sh m h h') (q : ([0, 1, 4, 5, 6, 7, 8, 10, 11, 12, 13, 15, 16, 17, 18].all (fun i => !cw_bit m 4 i) && !cw_bit m 33 0) = true) (hp : zPM b h) : zPM b h' := by
  rw [Bool.and_eq_true, List.all_eq_true] at q
  have k4 : cw_sh[b]? = some 4 := by rcases hb with rfl | rfl <;> rfl
  have k6 : cw_sh[b + 6]? = some 33 := by rcases hb with rfl | rfl <;> rfl
  refine ⟨fun i hi => (C.2 b 4 i k4 ?_).trans (hp.1 i hi), fun i hi => (C.2 (b + 6) 33 i k6 ?_).trans (hp.2 i hi)⟩
  · show cw_bit m 4 i = false
    simpa using q.1 i hi
  · show cw_bit m 33 0 = false
    simpa using q.2
def zZ (b i : Nat) (h : cv_H) : Prop := ∀ j, j < i → ri_at h (b + 16 + 2 * j) 14 = 0 ∧ ri_at h (b + 16 + 2 * j) 15 = 0
def zY (b i : Nat) (h : cv_H) : Prop := ∀ j, j < i → ri_at h (b + 3) j = 0 ∧ ri_at h (b + 4) j = 0
theorem zY_1 {b i : Nat} {h h' h'' : cv_H} {x y : Int32} (hy : zY b i h) (w : cw_Wr h h' (b + 3) i (cv_i x)) (w' : cw_Wr h' h'' (b + 4) i (cv_i y)) (hx : x.toInt = 0) (hy0 : y.toInt = 0) : zY b (i + 1) h'' := by
  intro j hj
  by_cases q : j = i
  · subst q
    exact ⟨(ri_ne w' (.inl (by omega))).trans ((ri_self w).trans hx), (ri_self w').trans hy0⟩
  · have := hy j (by omega)
    exact ⟨(ri_ne w' (.inl (by omega))).trans ((ri_ne w (.inr q)).trans this.1), (ri_ne w' (.inr q)).trans ((ri_ne w (.inl (by omega))).trans this.2)⟩
theorem zY_eq {b i : Nat} {h h' : cv_H} (hy : zY b i h) (e3 : ∀ i, ri_at h' (b + 3) i = ri_at h (b + 3) i) (e4 : ∀ i, ri_at h' (b + 4) i = ri_at h (b + 4) i) : zY b i h' := fun j hj => by rw [e3, e4]; exact hy j hj
theorem oq_X4_clear_0 : cw_ho 49 0 (.iconst 0) 1 0 0 0 := rfl
theorem oq_X4_clear_1 : cw_ho 49 1 (.istore_n 1) 1 0 0 0 := rfl
theorem oq_X4_clear_2 : cw_ho 49 2 (.iload_n 1) 1 0 0 0 := rfl
theorem oq_X4_clear_3 : cw_ho 49 3 (.bipush 12) 2 0 0 0 := rfl
theorem oq_X4_clear_5 : cw_ho 49 5 (.if_icmp .ge 17) 3 0 0 0 := rfl
theorem oq_X4_clear_8 : cw_ho 49 8 (.aload_n 0) 1 0 0 0 := rfl
theorem oq_X4_clear_9 : cw_ho 49 9 (.getfield 9) 3 4 0 4 := rfl
theorem oq_X4_clear_12 : cw_ho 49 12 (.iload_n 1) 1 0 0 0 := rfl
theorem oq_X4_clear_13 : cw_ho 49 13 (.bipush 50) 2 0 0 0 := rfl
theorem oq_X4_clear_15 : cw_ho 49 15 (.iastore) 1 0 0 0 := rfl
theorem oq_X4_clear_16 : cw_ho 49 16 (.iinc 1 1) 3 0 0 0 := rfl
theorem oq_X4_clear_19 : cw_ho 49 19 (.goto (-17)) 3 0 0 0 := rfl
theorem oq_X4_clear_22 : cw_ho 49 22 (.iconst 0) 1 0 0 0 := rfl
theorem oq_X4_clear_23 : cw_ho 49 23 (.istore_n 1) 1 0 0 0 := rfl
theorem oq_X4_clear_24 : cw_ho 49 24 (.iload_n 1) 1 0 0 0 := rfl
theorem oq_X4_clear_25 : cw_ho 49 25 (.iconst 4) 1 0 0 0 := rfl
theorem oq_X4_clear_26 : cw_ho 49 26 (.if_icmp .ge 30) 3 0 0 0 := rfl
theorem oq_X4_clear_29 : cw_ho 49 29 (.aload_n 0) 1 0 0 0 := rfl
theorem oq_X4_clear_30 : cw_ho 49 30 (.getfield 18) 3 4 4 4 := rfl
theorem oq_X4_clear_33 : cw_ho 49 33 (.iload_n 1) 1 0 0 0 := rfl
theorem oq_X4_clear_34 : cw_ho 49 34 (.iconst 0) 1 0 0 0 := rfl
theorem oq_X4_clear_35 : cw_ho 49 35 (.iastore) 1 0 0 0 := rfl
theorem oq_X4_clear_36 : cw_ho 49 36 (.aload_n 0) 1 0 0 0 := rfl
theorem oq_X4_clear_37 : cw_ho 49 37 (.getfield 21) 3 4 5 4 := rfl
theorem oq_X4_clear_40 : cw_ho 49 40 (.iload_n 1) 1 0 0 0 := rfl
theorem oq_X4_clear_41 : cw_ho 49 41 (.iconst 0) 1 0 0 0 := rfl
theorem oq_X4_clear_42 : cw_ho 49 42 (.iastore) 1 0 0 0 := rfl
theorem oq_X4_clear_43 : cw_ho 49 43 (.aload_n 0) 1 0 0 0 := rfl
theorem oq_X4_clear_44 : cw_ho 49 44 (.getfield 24) 3 4 6 4 := rfl
theorem oq_X4_clear_47 : cw_ho 49 47 (.iload_n 1) 1 0 0 0 := rfl
theorem oq_X4_clear_48 : cw_ho 49 48 (.iconst 0) 1 0 0 0 := rfl
theorem oq_X4_clear_49 : cw_ho 49 49 (.iastore) 1 0 0 0 := rfl
theorem oq_X4_clear_50 : cw_ho 49 50 (.iinc 1 1) 3 0 0 0 := rfl
theorem oq_X4_clear_53 : cw_ho 49 53 (.goto (-29)) 3 0 0 0 := rfl
theorem oq_X4_clear_56 : cw_ho 49 56 (.iconst 0) 1 0 0 0 := rfl
theorem oq_X4_clear_57 : cw_ho 49 57 (.istore_n 1) 1 0 0 0 := rfl
theorem oq_X4_clear_58 : cw_ho 49 58 (.iload_n 1) 1 0 0 0 := rfl
theorem oq_X4_clear_59 : cw_ho 49 59 (.iconst 4) 1 0 0 0 := rfl
theorem oq_X4_clear_60 : cw_ho 49 60 (.if_icmp .ge 18) 3 0 0 0 := rfl
theorem oq_X4_clear_63 : cw_ho 49 63 (.aload_n 0) 1 0 0 0 := rfl
theorem oq_X4_clear_64 : cw_ho 49 64 (.getfield 29) 3 4 7 4 := rfl
theorem oq_X4_clear_67 : cw_ho 49 67 (.iload_n 1) 1 0 0 0 := rfl
theorem oq_X4_clear_68 : cw_ho 49 68 (.aaload) 1 0 0 0 := rfl
theorem oq_X4_clear_69 : cw_ho 49 69 (.invokevirtual 64) 3 86 0 7 := rfl
theorem oq_X4_clear_72 : cw_ho 49 72 (.iinc 1 1) 3 0 0 0 := rfl
theorem oq_X4_clear_75 : cw_ho 49 75 (.goto (-17)) 3 0 0 0 := rfl
theorem oq_X4_clear_78 : cw_ho 49 78 (.aload_n 0) 1 0 0 0 := rfl
theorem oq_X4_clear_79 : cw_ho 49 79 (.iconst 0) 1 0 0 0 := rfl
theorem oq_X4_clear_80 : cw_ho 49 80 (.putfield 65) 3 4 2 0 := rfl
theorem oq_X4_clear_83 : cw_ho 49 83 (.aload_n 0) 1 0 0 0 := rfl
theorem oq_X4_clear_84 : cw_ho 49 84 (.iconst 0) 1 0 0 0 := rfl
theorem oq_X4_clear_85 : cw_ho 49 85 (.putfield 69) 3 4 3 0 := rfl
theorem oq_X4_clear_88 : cw_ho 49 88 (.aload_n 0) 1 0 0 0 := rfl
theorem oq_X4_clear_89 : cw_ho 49 89 (.iconst 0) 1 0 0 0 := rfl
theorem oq_X4_clear_90 : cw_ho 49 90 (.putfield 72) 3 4 9 0 := rfl
theorem oq_X4_clear_93 : cw_ho 49 93 (.aload_n 0) 1 0 0 0 := rfl
theorem oq_X4_clear_94 : cw_ho 49 94 (.iconst 0) 1 0 0 0 := rfl
theorem oq_X4_clear_95 : cw_ho 49 95 (.putfield 75) 3 4 14 0 := rfl
theorem oq_X4_clear_98 : cw_ho 49 98 (.aload_n 0) 1 0 0 0 := rfl
theorem oq_X4_clear_99 : cw_ho 49 99 (.iconst 0) 1 0 0 0 := rfl
theorem oq_X4_clear_100 : cw_ho 49 100 (.putfield 78) 3 4 19 0 := rfl
theorem oq_X4_clear_103 : cw_ho 49 103 (.return_) 1 0 0 0 := rfl
theorem c4_e {h0 : cv_H} {b : Nat} (hb : b = 2 ∨ b = 26) (hpl : zPM b h0) (hQ : ∀ h', cw_T G h' → cw_Fr cw_Ds cw_sh kk_X4_clear.2.2.2.2.2.1 h0 h' → ri_at h' b 2 = 0 → ri_at h' b 3 = 0 → ri_at h' b 9 = 0 → ri_at h' b 14 = 0 → ri_at h' b 19 = 0 → zY b 4 h' → zZ b 4 h' → Q (none, h')) (L : cv_L) (h : cv_H) (hT : cw_T G h) (Fh : cw_Fr cw_Ds cw_sh kk_X4_clear.2.2.2.2.2.1 h0 h) (hY : zY b 4 h) (hZ : zZ b 4 h) (g0 : cv_get L 0 = some (cv_r b)) : cw_X X 49 Q 78 L [] h := by
  have Fh0 : cw_Fr cw_Ds cw_sh kk_X4_clear.2.2.2.2.2.1 h0 h0 := cw_Fr_refl
  have hPL : ∀ h, cw_Fr cw_Ds cw_sh kk_X4_clear.2.2.2.2.2.1 h0 h → True ∧ zPM b h := fun h F => ⟨trivial, zPM_fr hb F (by decide +kernel) hpl⟩
  have hb4 : cw_sh[b]? = some 4 := by rcases hb with rfl | rfl <;> rfl
  have hkb1 : cw_sh[b + 1]? = some 28 := by rcases hb with rfl | rfl <;> rfl
  have hkb2 : cw_sh[b + 2]? = some 29 := by rcases hb with rfl | rfl <;> rfl
  have hkb3 : cw_sh[b + 3]? = some 30 := by rcases hb with rfl | rfl <;> rfl
  have hkb4 : cw_sh[b + 4]? = some 31 := by rcases hb with rfl | rfl <;> rfl
  have hkb5 : cw_sh[b + 5]? = some 32 := by rcases hb with rfl | rfl <;> rfl
  have hkb6 : cw_sh[b + 6]? = some 33 := by rcases hb with rfl | rfl <;> rfl
  have hkb7 : cw_sh[b + 7]? = some 34 := by rcases hb with rfl | rfl <;> rfl
  have hkb8 : cw_sh[b + 8]? = some 35 := by rcases hb with rfl | rfl <;> rfl
  have hkb9 : cw_sh[b + 9]? = some 36 := by rcases hb with rfl | rfl <;> rfl
  have hkb10 : cw_sh[b + 10]? = some 37 := by rcases hb with rfl | rfl <;> rfl
  have hkb11 : cw_sh[b + 11]? = some 38 := by rcases hb with rfl | rfl <;> rfl
  have hkb12 : cw_sh[b + 12]? = some 39 := by rcases hb with rfl | rfl <;> rfl
  have hkb13 : cw_sh[b + 13]? = some 40 := by rcases hb with rfl | rfl <;> rfl
  have hkb14 : cw_sh[b + 14]? = some 41 := by rcases hb with rfl | rfl <;> rfl
  have hkb15 : cw_sh[b + 15]? = some 42 := by rcases hb with rfl | rfl <;> rfl
  refine ex_al oq_X4_clear_78 g0 ?_
  refine ex_ic oq_X4_clear_79 (m := 0) (by decide) (fun x51 hx51 => ?_)
  refine ex_pfi oq_X4_clear_80 hT (k := b) (d := 4) hb4 rfl rfl (cw_i32 _).1 (cw_i32 _).2 (fun h52 Th52 wh52 => ?_)
  have Fh52 : cw_Fr cw_Ds cw_sh kk_X4_clear.2.2.2.2.2.1 h0 h52 := cw_Fr_tr Fh (cw_Fr_wrf wh52 (k := b) (d := 4) hb4 rfl (by decide +kernel))
  have eh52_b_2 : ri_at h52 b 2 = x51.toInt := ri_self wh52
  have eh52_b_3 : ri_at h52 b 3 = ri_at h b 3 := ri_ne wh52 (.inr (by decide))
  have eh52_b_9 : ri_at h52 b 9 = ri_at h b 9 := ri_ne wh52 (.inr (by decide))
  have eh52_b_14 : ri_at h52 b 14 = ri_at h b 14 := ri_ne wh52 (.inr (by decide))
  have eh52_b_19 : ri_at h52 b 19 = ri_at h b 19 := ri_ne wh52 (.inr (by decide))
  refine ex_al oq_X4_clear_83 g0 ?_
  refine ex_ic oq_X4_clear_84 (m := 0) (by decide) (fun x53 hx53 => ?_)
  refine ex_pfi oq_X4_clear_85 Th52 (k := b) (d := 4) hb4 rfl rfl (cw_i32 _).1 (cw_i32 _).2 (fun h54 Th54 wh54 => ?_)
  have Fh54 : cw_Fr cw_Ds cw_sh kk_X4_clear.2.2.2.2.2.1 h0 h54 := cw_Fr_tr Fh52 (cw_Fr_wrf wh54 (k := b) (d := 4) hb4 rfl (by decide +kernel))
  have eh54_b_2 : ri_at h54 b 2 = x51.toInt := (ri_ne wh54 (.inr (by decide))).trans eh52_b_2
  clear eh52_b_2
  have eh54_b_3 : ri_at h54 b 3 = x53.toInt := ri_self wh54
  have eh54_b_9 : ri_at h54 b 9 = ri_at h b 9 := (ri_ne wh54 (.inr (by decide))).trans eh52_b_9
  clear eh52_b_9
  have eh54_b_14 : ri_at h54 b 14 = ri_at h b 14 := (ri_ne wh54 (.inr (by decide))).trans eh52_b_14
  clear eh52_b_14
  have eh54_b_19 : ri_at h54 b 19 = ri_at h b 19 := (ri_ne wh54 (.inr (by decide))).trans eh52_b_19
  clear eh52_b_19
  refine ex_al oq_X4_clear_88 g0 ?_
  refine ex_ic oq_X4_clear_89 (m := 0) (by decide) (fun x55 hx55 => ?_)
  refine ex_pfi oq_X4_clear_90 Th54 (k := b) (d := 4) hb4 rfl rfl (by omega) (by omega) (fun h56 Th56 wh56 => ?_)
  have Fh56 : cw_Fr cw_Ds cw_sh kk_X4_clear.2.2.2.2.2.1 h0 h56 := cw_Fr_tr Fh54 (cw_Fr_wrf wh56 (k := b) (d := 4) hb4 rfl (by decide +kernel))
  have eh56_b_2 : ri_at h56 b 2 = x51.toInt := (ri_ne wh56 (.inr (by decide))).trans eh54_b_2
  clear eh54_b_2
  have eh56_b_3 : ri_at h56 b 3 = x53.toInt := (ri_ne wh56 (.inr (by decide))).trans eh54_b_3
  clear eh54_b_3
  have eh56_b_9 : ri_at h56 b 9 = x55.toInt := ri_self wh56
  have eh56_b_14 : ri_at h56 b 14 = ri_at h b 14 := (ri_ne wh56 (.inr (by decide))).trans eh54_b_14
  clear eh54_b_14
  have eh56_b_19 : ri_at h56 b 19 = ri_at h b 19 := (ri_ne wh56 (.inr (by decide))).trans eh54_b_19
  clear eh54_b_19
  refine ex_al oq_X4_clear_93 g0 ?_
  refine ex_ic oq_X4_clear_94 (m := 0) (by decide) (fun x57 hx57 => ?_)
  refine ex_pfi oq_X4_clear_95 Th56 (k := b) (d := 4) hb4 rfl rfl (by omega) (by omega) (fun h58 Th58 wh58 => ?_)
  have Fh58 : cw_Fr cw_Ds cw_sh kk_X4_clear.2.2.2.2.2.1 h0 h58 := cw_Fr_tr Fh56 (cw_Fr_wrf wh58 (k := b) (d := 4) hb4 rfl (by decide +kernel))
  have eh58_b_2 : ri_at h58 b 2 = x51.toInt := (ri_ne wh58 (.inr (by decide))).trans eh56_b_2
  clear eh56_b_2
  have eh58_b_3 : ri_at h58 b 3 = x53.toInt := (ri_ne wh58 (.inr (by decide))).trans eh56_b_3
  clear eh56_b_3
  have eh58_b_9 : ri_at h58 b 9 = x55.toInt := (ri_ne wh58 (.inr (by decide))).trans eh56_b_9
  clear eh56_b_9
  have eh58_b_14 : ri_at h58 b 14 = x57.toInt := ri_self wh58
  have eh58_b_19 : ri_at h58 b 19 = ri_at h b 19 := (ri_ne wh58 (.inr (by decide))).trans eh56_b_19
  clear eh56_b_19
  refine ex_al oq_X4_clear_98 g0 ?_
  refine ex_ic oq_X4_clear_99 (m := 0) (by decide) (fun x59 hx59 => ?_)
  refine ex_pfi oq_X4_clear_100 Th58 (k := b) (d := 4) hb4 rfl rfl (by omega) (by omega) (fun h60 Th60 wh60 => ?_)
  have Fh60 : cw_Fr cw_Ds cw_sh kk_X4_clear.2.2.2.2.2.1 h0 h60 := cw_Fr_tr Fh58 (cw_Fr_wrf wh60 (k := b) (d := 4) hb4 rfl (by decide +kernel))
  have eh60_b_2 : ri_at h60 b 2 = x51.toInt := (ri_ne wh60 (.inr (by decide))).trans eh58_b_2
  clear eh58_b_2
  have eh60_b_3 : ri_at h60 b 3 = x53.toInt := (ri_ne wh60 (.inr (by decide))).trans eh58_b_3
  clear eh58_b_3
  have eh60_b_9 : ri_at h60 b 9 = x55.toInt := (ri_ne wh60 (.inr (by decide))).trans eh58_b_9
  clear eh58_b_9
  have eh60_b_14 : ri_at h60 b 14 = x57.toInt := (ri_ne wh60 (.inr (by decide))).trans eh58_b_14
  clear eh58_b_14
  have eh60_b_19 : ri_at h60 b 19 = x59.toInt := ri_self wh60
  exact ex_retv oq_X4_clear_103 rfl (hQ h60 Th60 Fh60 (by omega) (by omega) (by omega) (by omega) (by omega) (zY_eq hY (fun i => ((ri_ne wh60 (.inl (cw_kne (k := (b + 3)) (d := 30) (k' := b) (d' := 4) hkb3 hb4 (by decide)))).trans ((ri_ne wh58 (.inl (cw_kne (k := (b + 3)) (d := 30) (k' := b) (d' := 4) hkb3 hb4 (by decide)))).trans ((ri_ne wh56 (.inl (cw_kne (k := (b + 3)) (d := 30) (k' := b) (d' := 4) hkb3 hb4 (by decide)))).trans ((ri_ne wh54 (.inl (cw_kne (k := (b + 3)) (d := 30) (k' := b) (d' := 4) hkb3 hb4 (by decide)))).trans (ri_ne wh52 (.inl (cw_kne (k := (b + 3)) (d := 30) (k' := b) (d' := 4) hkb3 hb4 (by decide))))))))) (fun i => ((ri_ne wh60 (.inl (cw_kne (k := (b + 4)) (d := 31) (k' := b) (d' := 4) hkb4 hb4 (by decide)))).trans ((ri_ne wh58 (.inl (cw_kne (k := (b + 4)) (d := 31) (k' := b) (d' := 4) hkb4 hb4 (by decide)))).trans ((ri_ne wh56 (.inl (cw_kne (k := (b + 4)) (d := 31) (k' := b) (d' := 4) hkb4 hb4 (by decide)))).trans ((ri_ne wh54 (.inl (cw_kne (k := (b + 4)) (d := 31) (k' := b) (d' := 4) hkb4 hb4 (by decide)))).trans (ri_ne wh52 (.inl (cw_kne (k := (b + 4)) (d := 31) (k' := b) (d' := 4) hkb4 hb4 (by decide)))))))))) (fun j hj => ⟨((ri_ne wh60 (.inl (cw_kne (sh_told hb hj) hb4 (by decide)))).trans ((ri_ne wh58 (.inl (cw_kne (sh_told hb hj) hb4 (by decide)))).trans ((ri_ne wh56 (.inl (cw_kne (sh_told hb hj) hb4 (by decide)))).trans ((ri_ne wh54 (.inl (cw_kne (sh_told hb hj) hb4 (by decide)))).trans ((ri_ne wh52 (.inl (cw_kne (sh_told hb hj) hb4 (by decide)))).trans (hZ j hj).1))))), ((ri_ne wh60 (.inl (cw_kne (sh_told hb hj) hb4 (by decide)))).trans ((ri_ne wh58 (.inl (cw_kne (sh_told hb hj) hb4 (by decide)))).trans ((ri_ne wh56 (.inl (cw_kne (sh_told hb hj) hb4 (by decide)))).trans ((ri_ne wh54 (.inl (cw_kne (sh_told hb hj) hb4 (by decide)))).trans ((ri_ne wh52 (.inl (cw_kne (sh_told hb hj) hb4 (by decide)))).trans (hZ j hj).2)))))⟩))
theorem c4_g {h0 : cv_H} {b : Nat} (hb : b = 2 ∨ b = 26) (hpl : zPM b h0) (hQ : ∀ h', cw_T G h' → cw_Fr cw_Ds cw_sh kk_X4_clear.2.2.2.2.2.1 h0 h' → ri_at h' b 2 = 0 → ri_at h' b 3 = 0 → ri_at h' b 9 = 0 → ri_at h' b 14 = 0 → ri_at h' b 19 = 0 → zY b 4 h' → zZ b 4 h' → Q (none, h')) : ∀ (u i : Nat) (L : cv_L) (I : Int32) (h : cv_H), i + u = 4 → cw_T G h → cw_Fr cw_Ds cw_sh kk_X4_clear.2.2.2.2.2.1 h0 h → zY b 4 h → zZ b i h → I.toInt = i → cv_get L 0 = some (cv_r b) → cv_get L 1 = some (cv_i I) → cw_X X 49 Q 58 L [] h := by
  have Fh0 : cw_Fr cw_Ds cw_sh kk_X4_clear.2.2.2.2.2.1 h0 h0 := cw_Fr_refl
  have hPL : ∀ h, cw_Fr cw_Ds cw_sh kk_X4_clear.2.2.2.2.2.1 h0 h → True ∧ zPM b h := fun h F => ⟨trivial, zPM_fr hb F (by decide +kernel) hpl⟩
  have hb4 : cw_sh[b]? = some 4 := by rcases hb with rfl | rfl <;> rfl
  have hkb1 : cw_sh[b + 1]? = some 28 := by rcases hb with rfl | rfl <;> rfl
  have hkb2 : cw_sh[b + 2]? = some 29 := by rcases hb with rfl | rfl <;> rfl
  have hkb3 : cw_sh[b + 3]? = some 30 := by rcases hb with rfl | rfl <;> rfl
  have hkb4 : cw_sh[b + 4]? = some 31 := by rcases hb with rfl | rfl <;> rfl
  have hkb5 : cw_sh[b + 5]? = some 32 := by rcases hb with rfl | rfl <;> rfl
  have hkb6 : cw_sh[b + 6]? = some 33 := by rcases hb with rfl | rfl <;> rfl
  have hkb7 : cw_sh[b + 7]? = some 34 := by rcases hb with rfl | rfl <;> rfl
  have hkb8 : cw_sh[b + 8]? = some 35 := by rcases hb with rfl | rfl <;> rfl
  have hkb9 : cw_sh[b + 9]? = some 36 := by rcases hb with rfl | rfl <;> rfl
  have hkb10 : cw_sh[b + 10]? = some 37 := by rcases hb with rfl | rfl <;> rfl
  have hkb11 : cw_sh[b + 11]? = some 38 := by rcases hb with rfl | rfl <;> rfl
  have hkb12 : cw_sh[b + 12]? = some 39 := by rcases hb with rfl | rfl <;> rfl
  have hkb13 : cw_sh[b + 13]? = some 40 := by rcases hb with rfl | rfl <;> rfl
  have hkb14 : cw_sh[b + 14]? = some 41 := by rcases hb with rfl | rfl <;> rfl
  have hkb15 : cw_sh[b + 15]? = some 42 := by rcases hb with rfl | rfl <;> rfl
  intro u
  induction u with
  | zero =>
    intro i L I h hiu hT Fh hY hZ hI g0 g1
    have hi4 : i = 4 := by omega
    subst hi4
    refine ex_il oq_X4_clear_58 g1 ?_
    refine ex_ic oq_X4_clear_59 (m := 4) (by decide) (fun x101 hx101 => ?_)
    refine ex_if oq_X4_clear_60 (t := 78) rfl rfl (fun (c102 : x101.toInt ≤ I.toInt) => ?_) (fun (c102 : ¬ (x101.toInt ≤ I.toInt)) => ?_)
    · exact c4_e hb hpl hQ L h hT Fh hY hZ g0
    · exfalso; omega
  | succ u ih =>
    intro i L I h hiu hT Fh hY hZ hI g0 g1
    obtain ⟨K, hKe⟩ : ∃ K, K = b + 16 + 2 * i := ⟨_, rfl⟩
    have hK7 : cw_sh[K]? = some 7 := by rw [hKe]; exact sh_told hb (by omega)
    refine ex_il oq_X4_clear_58 g1 ?_
    refine ex_ic oq_X4_clear_59 (m := 4) (by decide) (fun x101 hx101 => ?_)
    refine ex_if oq_X4_clear_60 (t := 78) rfl rfl (fun (c102 : x101.toInt ≤ I.toInt) => ?_) (fun (c102 : ¬ (x101.toInt ≤ I.toInt)) => ?_)
    · exfalso; omega
    · refine ex_al oq_X4_clear_63 g0 ?_
      refine ex_gf oq_X4_clear_64 hT (k := b) (d := 4) hb4 rfl ((show cw_at h b 7 = some (cv_r (b + 6)) from (hPL _ Fh).2.1 7 (by decide))) ?_
      refine ex_il oq_X4_clear_67 g1 ?_
      refine ex_aa oq_X4_clear_68 hT (k := (b + 6)) (d := 33) (j := i) hkb6 rfl (by omega) (by omega) (fun k104 ak104 sk104 => ?_)
      have ek104 : K = k104 := by have := ((hPL _ Fh).2.2 i (by omega)).symm.trans ak104; rw [← hKe] at this; cases this; rfl
      subst ek104
      refine ex_cv oq_X4_clear_69 (by decide) hT (k := K) (d := 7) (as := []) (stk := []) hK7 rfl rfl rfl rfl rfl ⟨rfl, rfl⟩ (R := fun o => ∃ hb : cv_H, o = (none, hb) ∧ cw_T G hb ∧ cw_Fr cw_Ds cw_sh kk_X7_clear.2.2.2.2.2.1 h hb ∧ zOT K h hb ∧ ri_at hb K 14 = 0 ∧ ri_at hb K 15 = 0) (ct_clear7 hT hK7 (fun hb b1 b2 b3 b4 b5 => ⟨hb, rfl, b1, b2, b3, b4, b5⟩)) (fun o ho => ?_)
      obtain ⟨h105, rfl, Th105, Ch105, oh105, ph105, qh105⟩ := ho
      show cw_X _ _ _ _ _ [] h105
      have Fh105 : cw_Fr cw_Ds cw_sh kk_X4_clear.2.2.2.2.2.1 h0 h105 := cw_Fr_tr Fh (cw_Fr_mono (by decide +kernel) Ch105)
      refine ex_incA oq_X4_clear_72 (v := I) (m := 1) g1 (by decide) (by omega) (fun L107 x106 hx106 gL107_1 kL107 => ?_)
      have gL107_0 : cv_get L107 0 = some (cv_r b) := kL107 0 _ (by decide) (fun _ => rfl) g0
      refine ex_go oq_X4_clear_75 (t := 58) rfl rfl ?_
      have hZ2 : zZ b (i + 1) h105 := by
        intro j hj
        by_cases q : j = i
        · subst q; rw [← hKe]; exact ⟨ph105, qh105⟩
        · have := oh105 (b + 16 + 2 * j) (sh_told hb (by omega)) (by omega)
          exact ⟨this.1.trans (hZ j (by omega)).1, this.2.trans (hZ j (by omega)).2⟩
      exact ih (i + 1) L107 x106 h105 (by omega) Th105 Fh105 (zY_eq hY (fun i => (ri_frr Ch105 (k := (b + 3)) (d := 30) hkb3 rfl (by decide +kernel))) (fun i => (ri_frr Ch105 (k := (b + 4)) (d := 31) hkb4 rfl (by decide +kernel)))) hZ2 (by omega) gL107_0 gL107_1
theorem c4_l {h0 : cv_H} {b : Nat} (hb : b = 2 ∨ b = 26) (hpl : zPM b h0) (hQ : ∀ h', cw_T G h' → cw_Fr cw_Ds cw_sh kk_X4_clear.2.2.2.2.2.1 h0 h' → ri_at h' b 2 = 0 → ri_at h' b 3 = 0 → ri_at h' b 9 = 0 → ri_at h' b 14 = 0 → ri_at h' b 19 = 0 → zY b 4 h' → zZ b 4 h' → Q (none, h')) : ∀ (u i : Nat) (L : cv_L) (I : Int32) (h : cv_H), i + u = 4 → cw_T G h → cw_Fr cw_Ds cw_sh kk_X4_clear.2.2.2.2.2.1 h0 h → zY b i h → I.toInt = i → cv_get L 0 = some (cv_r b) → cv_get L 1 = some (cv_i I) → cw_X X 49 Q 24 L [] h := by
  have Fh0 : cw_Fr cw_Ds cw_sh kk_X4_clear.2.2.2.2.2.1 h0 h0 := cw_Fr_refl
  have hPL : ∀ h, cw_Fr cw_Ds cw_sh kk_X4_clear.2.2.2.2.2.1 h0 h → True ∧ zPM b h := fun h F => ⟨trivial, zPM_fr hb F (by decide +kernel) hpl⟩
  have hb4 : cw_sh[b]? = some 4 := by rcases hb with rfl | rfl <;> rfl
  have hkb1 : cw_sh[b + 1]? = some 28 := by rcases hb with rfl | rfl <;> rfl
  have hkb2 : cw_sh[b + 2]? = some 29 := by rcases hb with rfl | rfl <;> rfl
  have hkb3 : cw_sh[b + 3]? = some 30 := by rcases hb with rfl | rfl <;> rfl
  have hkb4 : cw_sh[b + 4]? = some 31 := by rcases hb with rfl | rfl <;> rfl
  have hkb5 : cw_sh[b + 5]? = some 32 := by rcases hb with rfl | rfl <;> rfl
  have hkb6 : cw_sh[b + 6]? = some 33 := by rcases hb with rfl | rfl <;> rfl
  have hkb7 : cw_sh[b + 7]? = some 34 := by rcases hb with rfl | rfl <;> rfl
  have hkb8 : cw_sh[b + 8]? = some 35 := by rcases hb with rfl | rfl <;> rfl
  have hkb9 : cw_sh[b + 9]? = some 36 := by rcases hb with rfl | rfl <;> rfl
  have hkb10 : cw_sh[b + 10]? = some 37 := by rcases hb with rfl | rfl <;> rfl
  have hkb11 : cw_sh[b + 11]? = some 38 := by rcases hb with rfl | rfl <;> rfl
  have hkb12 : cw_sh[b + 12]? = some 39 := by rcases hb with rfl | rfl <;> rfl
  have hkb13 : cw_sh[b + 13]? = some 40 := by rcases hb with rfl | rfl <;> rfl
  have hkb14 : cw_sh[b + 14]? = some 41 := by rcases hb with rfl | rfl <;> rfl
  have hkb15 : cw_sh[b + 15]? = some 42 := by rcases hb with rfl | rfl <;> rfl
  intro u
  induction u with
  | zero =>
    intro i L I h hiu hT Fh hY hI g0 g1
    have hi4 : i = 4 := by omega
    subst hi4
    refine ex_il oq_X4_clear_24 g1 ?_
    refine ex_ic oq_X4_clear_25 (m := 4) (by decide) (fun x101 hx101 => ?_)
    refine ex_if oq_X4_clear_26 (t := 56) rfl rfl (fun (c102 : x101.toInt ≤ I.toInt) => ?_) (fun (c102 : ¬ (x101.toInt ≤ I.toInt)) => ?_)
    · refine ex_ic oq_X4_clear_56 (m := 0) (by decide) (fun x103 hx103 => ?_)
      refine ex_isA oq_X4_clear_57 (fun L104 gL104_1 kL104 => ?_)
      have gL104_0 : cv_get L104 0 = some (cv_r b) := kL104 0 _ (by decide) (fun _ => rfl) g0
      exact c4_g hb hpl hQ 4 0 L104 x103 h (by omega) hT Fh hY (fun j hj => absurd hj (Nat.not_lt_zero j)) (by omega) gL104_0 gL104_1
    · exfalso; omega
  | succ u ih =>
    intro i L I h hiu hT Fh hY hI g0 g1
    refine ex_il oq_X4_clear_24 g1 ?_
    refine ex_ic oq_X4_clear_25 (m := 4) (by decide) (fun x101 hx101 => ?_)
    refine ex_if oq_X4_clear_26 (t := 56) rfl rfl (fun (c102 : x101.toInt ≤ I.toInt) => ?_) (fun (c102 : ¬ (x101.toInt ≤ I.toInt)) => ?_)
    · exfalso; omega
    · refine ex_al oq_X4_clear_29 g0 ?_
      refine ex_gf oq_X4_clear_30 hT (k := b) (d := 4) hb4 rfl ((show cw_at h b 4 = some (cv_r (b + 3)) from (hPL _ Fh).2.1 4 (by decide))) ?_
      refine ex_il oq_X4_clear_33 g1 ?_
      refine ex_ic oq_X4_clear_34 (m := 0) (by decide) (fun x103 hx103 => ?_)
      refine ex_iw1 oq_X4_clear_35 hT (k := (b + 3)) (d := 30) (j := i) hkb3 rfl (by omega) (by omega) ⟨(cw_i32 _).1, (cw_i32 _).2⟩ (fun h104 Th104 wh104 => ?_)
      have Fh104 : cw_Fr cw_Ds cw_sh kk_X4_clear.2.2.2.2.2.1 h0 h104 := cw_Fr_tr Fh (cw_Fr_wrr wh104 (k := (b + 3)) (d := 30) hkb3 rfl (by decide +kernel))
      refine ex_al oq_X4_clear_36 g0 ?_
      refine ex_gf oq_X4_clear_37 Th104 (k := b) (d := 4) hb4 rfl ((show cw_at h104 b 5 = some (cv_r (b + 4)) from (hPL _ Fh104).2.1 5 (by decide))) ?_
      refine ex_il oq_X4_clear_40 g1 ?_
      refine ex_ic oq_X4_clear_41 (m := 0) (by decide) (fun x105 hx105 => ?_)
      refine ex_iw1 oq_X4_clear_42 Th104 (k := (b + 4)) (d := 31) (j := i) hkb4 rfl (by omega) (by omega) ⟨(cw_i32 _).1, (cw_i32 _).2⟩ (fun h106 Th106 wh106 => ?_)
      have Fh106 : cw_Fr cw_Ds cw_sh kk_X4_clear.2.2.2.2.2.1 h0 h106 := cw_Fr_tr Fh104 (cw_Fr_wrr wh106 (k := (b + 4)) (d := 31) hkb4 rfl (by decide +kernel))
      refine ex_al oq_X4_clear_43 g0 ?_
      refine ex_gf oq_X4_clear_44 Th106 (k := b) (d := 4) hb4 rfl ((show cw_at h106 b 6 = some (cv_r (b + 5)) from (hPL _ Fh106).2.1 6 (by decide))) ?_
      refine ex_il oq_X4_clear_47 g1 ?_
      refine ex_ic oq_X4_clear_48 (m := 0) (by decide) (fun x107 hx107 => ?_)
      refine ex_iw1 oq_X4_clear_49 Th106 (k := (b + 5)) (d := 32) (j := i) hkb5 rfl (by omega) (by omega) ⟨(cw_i32 _).1, (cw_i32 _).2⟩ (fun h108 Th108 wh108 => ?_)
      have Fh108 : cw_Fr cw_Ds cw_sh kk_X4_clear.2.2.2.2.2.1 h0 h108 := cw_Fr_tr Fh106 (cw_Fr_wrr wh108 (k := (b + 5)) (d := 32) hkb5 rfl (by decide +kernel))
      refine ex_incA oq_X4_clear_50 (v := I) (m := 1) g1 (by decide) (by omega) (fun L110 x109 hx109 gL110_1 kL110 => ?_)
      have gL110_0 : cv_get L110 0 = some (cv_r b) := kL110 0 _ (by decide) (fun _ => rfl) g0
      refine ex_go oq_X4_clear_53 (t := 24) rfl rfl ?_
      exact ih (i + 1) L110 x109 h108 (by omega) Th108 Fh108 (zY_eq (zY_1 hY wh104 wh106 (by omega) (by omega)) (fun i => (ri_ne wh108 (.inl (cw_kne (k := (b + 3)) (d := 30) (k' := (b + 5)) (d' := 32) hkb3 hkb5 (by decide))))) (fun i => (ri_ne wh108 (.inl (cw_kne (k := (b + 4)) (d := 31) (k' := (b + 5)) (d' := 32) hkb4 hkb5 (by decide)))))) (by omega) gL110_0 gL110_1
theorem c4_r {h0 : cv_H} {b : Nat} (hb : b = 2 ∨ b = 26) (hpl : zPM b h0) (hQ : ∀ h', cw_T G h' → cw_Fr cw_Ds cw_sh kk_X4_clear.2.2.2.2.2.1 h0 h' → ri_at h' b 2 = 0 → ri_at h' b 3 = 0 → ri_at h' b 9 = 0 → ri_at h' b 14 = 0 → ri_at h' b 19 = 0 → zY b 4 h' → zZ b 4 h' → Q (none, h')) : ∀ (u i : Nat) (L : cv_L) (I : Int32) (h : cv_H), i + u = 12 → cw_T G h → cw_Fr cw_Ds cw_sh kk_X4_clear.2.2.2.2.2.1 h0 h → I.toInt = i → cv_get L 0 = some (cv_r b) → cv_get L 1 = some (cv_i I) → cw_X X 49 Q 2 L [] h := by
  have Fh0 : cw_Fr cw_Ds cw_sh kk_X4_clear.2.2.2.2.2.1 h0 h0 := cw_Fr_refl
  have hPL : ∀ h, cw_Fr cw_Ds cw_sh kk_X4_clear.2.2.2.2.2.1 h0 h → True ∧ zPM b h := fun h F => ⟨trivial, zPM_fr hb F (by decide +kernel) hpl⟩
  have hb4 : cw_sh[b]? = some 4 := by rcases hb with rfl | rfl <;> rfl
  have hkb1 : cw_sh[b + 1]? = some 28 := by rcases hb with rfl | rfl <;> rfl
  have hkb2 : cw_sh[b + 2]? = some 29 := by rcases hb with rfl | rfl <;> rfl
  have hkb3 : cw_sh[b + 3]? = some 30 := by rcases hb with rfl | rfl <;> rfl
  have hkb4 : cw_sh[b + 4]? = some 31 := by rcases hb with rfl | rfl <;> rfl
  have hkb5 : cw_sh[b + 5]? = some 32 := by rcases hb with rfl | rfl <;> rfl
  have hkb6 : cw_sh[b + 6]? = some 33 := by rcases hb with rfl | rfl <;> rfl
  have hkb7 : cw_sh[b + 7]? = some 34 := by rcases hb with rfl | rfl <;> rfl
  have hkb8 : cw_sh[b + 8]? = some 35 := by rcases hb with rfl | rfl <;> rfl
  have hkb9 : cw_sh[b + 9]? = some 36 := by rcases hb with rfl | rfl <;> rfl
  have hkb10 : cw_sh[b + 10]? = some 37 := by rcases hb with rfl | rfl <;> rfl
  have hkb11 : cw_sh[b + 11]? = some 38 := by rcases hb with rfl | rfl <;> rfl
  have hkb12 : cw_sh[b + 12]? = some 39 := by rcases hb with rfl | rfl <;> rfl
  have hkb13 : cw_sh[b + 13]? = some 40 := by rcases hb with rfl | rfl <;> rfl
  have hkb14 : cw_sh[b + 14]? = some 41 := by rcases hb with rfl | rfl <;> rfl
  have hkb15 : cw_sh[b + 15]? = some 42 := by rcases hb with rfl | rfl <;> rfl
  intro u
  induction u with
  | zero =>
    intro i L I h hiu hT Fh hI g0 g1
    have hi4 : i = 12 := by omega
    subst hi4
    refine ex_il oq_X4_clear_2 g1 ?_
    refine ex_bi oq_X4_clear_3 (m := 12) (by decide) (fun x101 hx101 => ?_)
    refine ex_if oq_X4_clear_5 (t := 22) rfl rfl (fun (c102 : x101.toInt ≤ I.toInt) => ?_) (fun (c102 : ¬ (x101.toInt ≤ I.toInt)) => ?_)
    · refine ex_ic oq_X4_clear_22 (m := 0) (by decide) (fun x103 hx103 => ?_)
      refine ex_isA oq_X4_clear_23 (fun L104 gL104_1 kL104 => ?_)
      have gL104_0 : cv_get L104 0 = some (cv_r b) := kL104 0 _ (by decide) (fun _ => rfl) g0
      exact c4_l hb hpl hQ 4 0 L104 x103 h (by omega) hT Fh (fun j hj => absurd hj (Nat.not_lt_zero j)) (by omega) gL104_0 gL104_1
    · exfalso; omega
  | succ u ih =>
    intro i L I h hiu hT Fh hI g0 g1
    refine ex_il oq_X4_clear_2 g1 ?_
    refine ex_bi oq_X4_clear_3 (m := 12) (by decide) (fun x101 hx101 => ?_)
    refine ex_if oq_X4_clear_5 (t := 22) rfl rfl (fun (c102 : x101.toInt ≤ I.toInt) => ?_) (fun (c102 : ¬ (x101.toInt ≤ I.toInt)) => ?_)
    · exfalso; omega
    · refine ex_al oq_X4_clear_8 g0 ?_
      refine ex_gf oq_X4_clear_9 hT (k := b) (d := 4) hb4 rfl ((show cw_at h b 0 = some (cv_r (b + 1)) from (hPL _ Fh).2.1 0 (by decide))) ?_
      refine ex_il oq_X4_clear_12 g1 ?_
      refine ex_bi oq_X4_clear_13 (m := 50) (by decide) (fun x103 hx103 => ?_)
      refine ex_iw1 oq_X4_clear_15 hT (k := (b + 1)) (d := 28) (j := i) hkb1 rfl (by omega) (by omega) ⟨(cw_i32 _).1, (cw_i32 _).2⟩ (fun h104 Th104 wh104 => ?_)
      have Fh104 : cw_Fr cw_Ds cw_sh kk_X4_clear.2.2.2.2.2.1 h0 h104 := cw_Fr_tr Fh (cw_Fr_wrr wh104 (k := (b + 1)) (d := 28) hkb1 rfl (by decide +kernel))
      refine ex_incA oq_X4_clear_16 (v := I) (m := 1) g1 (by decide) (by omega) (fun L106 x105 hx105 gL106_1 kL106 => ?_)
      have gL106_0 : cv_get L106 0 = some (cv_r b) := kL106 0 _ (by decide) (fun _ => rfl) g0
      refine ex_go oq_X4_clear_19 (t := 2) rfl rfl ?_
      exact ih (i + 1) L106 x105 h104 (by omega) Th104 Fh104 (by omega) gL106_0 gL106_1
theorem ct_clear4 {h0 : cv_H} (hT : cw_T G h0) {b : Nat} (hb : b = 2 ∨ b = 26) (hpl : zPM b h0) (hQ : ∀ h', cw_T G h' → cw_Fr cw_Ds cw_sh kk_X4_clear.2.2.2.2.2.1 h0 h' → ri_at h' b 2 = 0 → ri_at h' b 3 = 0 → ri_at h' b 9 = 0 → ri_at h' b 14 = 0 → ri_at h' b 19 = 0 → zY b 4 h' → zZ b 4 h' → Q (none, h')) : cw_X X 49 Q 0 (cv_ent 0 [cv_r b]) [] h0 := by
  have Fh0 : cw_Fr cw_Ds cw_sh kk_X4_clear.2.2.2.2.2.1 h0 h0 := cw_Fr_refl
  have hPL : ∀ h, cw_Fr cw_Ds cw_sh kk_X4_clear.2.2.2.2.2.1 h0 h → True ∧ zPM b h := fun h F => ⟨trivial, zPM_fr hb F (by decide +kernel) hpl⟩
  have hb4 : cw_sh[b]? = some 4 := by rcases hb with rfl | rfl <;> rfl
  have hkb1 : cw_sh[b + 1]? = some 28 := by rcases hb with rfl | rfl <;> rfl
  have hkb2 : cw_sh[b + 2]? = some 29 := by rcases hb with rfl | rfl <;> rfl
  have hkb3 : cw_sh[b + 3]? = some 30 := by rcases hb with rfl | rfl <;> rfl
  have hkb4 : cw_sh[b + 4]? = some 31 := by rcases hb with rfl | rfl <;> rfl
  have hkb5 : cw_sh[b + 5]? = some 32 := by rcases hb with rfl | rfl <;> rfl
  have hkb6 : cw_sh[b + 6]? = some 33 := by rcases hb with rfl | rfl <;> rfl
  have hkb7 : cw_sh[b + 7]? = some 34 := by rcases hb with rfl | rfl <;> rfl
  have hkb8 : cw_sh[b + 8]? = some 35 := by rcases hb with rfl | rfl <;> rfl
  have hkb9 : cw_sh[b + 9]? = some 36 := by rcases hb with rfl | rfl <;> rfl
  have hkb10 : cw_sh[b + 10]? = some 37 := by rcases hb with rfl | rfl <;> rfl
  have hkb11 : cw_sh[b + 11]? = some 38 := by rcases hb with rfl | rfl <;> rfl
  have hkb12 : cw_sh[b + 12]? = some 39 := by rcases hb with rfl | rfl <;> rfl
  have hkb13 : cw_sh[b + 13]? = some 40 := by rcases hb with rfl | rfl <;> rfl
  have hkb14 : cw_sh[b + 14]? = some 41 := by rcases hb with rfl | rfl <;> rfl
  have hkb15 : cw_sh[b + 15]? = some 42 := by rcases hb with rfl | rfl <;> rfl
  refine ex_ic oq_X4_clear_0 (m := 0) (by decide) (fun x101 hx101 => ?_)
  refine ex_isA oq_X4_clear_1 (fun L102 gL102_1 kL102 => ?_)
  have gL102_0 : cv_get L102 0 = some (cv_r b) := kL102 0 _ (by decide) (fun _ => rfl) rfl
  exact c4_r hb hpl hQ 12 0 L102 x101 h0 (by omega) hT Fh0 (by omega) gL102_0 gL102_1
theorem oq_X6_begin_0 : cw_ho 77 0 (.aload_n 0) 1 0 0 0 := rfl
theorem oq_X6_begin_1 : cw_ho 77 1 (.iconst 0) 1 0 0 0 := rfl
theorem oq_X6_begin_2 : cw_ho 77 2 (.iload_n 1) 1 0 0 0 := rfl
theorem oq_X6_begin_3 : cw_ho 77 3 (.aload_n 0) 1 0 0 0 := rfl
theorem oq_X6_begin_4 : cw_ho 77 4 (.getfield 15) 3 6 0 4 := rfl
theorem oq_X6_begin_7 : cw_ho 77 7 (.arraylength) 1 0 0 0 := rfl
theorem oq_X6_begin_8 : cw_ho 77 8 (.invokestatic 35) 3 9002 2 0 := rfl
theorem oq_X6_begin_11 : cw_ho 77 11 (.invokestatic 40) 3 9001 2 0 := rfl
theorem oq_X6_begin_14 : cw_ho 77 14 (.putfield 43) 3 6 2 0 := rfl
theorem oq_X6_begin_17 : cw_ho 77 17 (.aload_n 0) 1 0 0 0 := rfl
theorem oq_X6_begin_18 : cw_ho 77 18 (.iconst 0) 1 0 0 0 := rfl
theorem oq_X6_begin_19 : cw_ho 77 19 (.putfield 46) 3 6 3 0 := rfl
theorem oq_X6_begin_22 : cw_ho 77 22 (.aload_n 0) 1 0 0 0 := rfl
theorem oq_X6_begin_23 : cw_ho 77 23 (.invokevirtual 49) 3 78 0 6 := rfl
theorem oq_X6_begin_26 : cw_ho 77 26 (.return_) 1 0 0 0 := rfl
theorem ct_begin {h0 : cv_H} {n : Nat} (ht : ∀ i, t i = ri_at h0 1 i % 256) (hwd : ∀ i, i < 34 → ri_at h0 52 i = tz_wc.getD i 0) (hn9 : n ≤ 900) (hT : cw_T G h0) {N : Int32} (hN : N.toInt = n) (hQ : ∀ h', cw_T G h' → cw_Fr cw_Ds cw_sh kk_X6_begin.2.2.2.2.2.1 h0 h' → zC t n 0 h' → Q (none, h')) : cw_X X 77 Q 0 (cv_ent 0 [cv_r 51, cv_i N]) [] h0 := by
  have Fh0 : cw_Fr cw_Ds cw_sh kk_X6_begin.2.2.2.2.2.1 h0 h0 := cw_Fr_refl
  have hA : ∀ h, cw_Fr cw_Ds cw_sh kk_X6_begin.2.2.2.2.2.1 h0 h → ∀ i, ri_at h 1 i = ri_at h0 1 i := fun h F i => ri_frr F (k := 1) (d := 13) rfl rfl (by decide +kernel)
  have hB : ∀ h, cw_Fr cw_Ds cw_sh kk_X6_begin.2.2.2.2.2.1 h0 h → ∀ i, ri_at h 52 i = ri_at h0 52 i := fun h F i => ri_frr F (k := 52) (d := 43) rfl rfl (by decide +kernel)
  refine ex_al oq_X6_begin_0 rfl ?_
  refine ex_ic oq_X6_begin_1 (m := 0) (by decide) (fun x11 hx11 => ?_)
  refine ex_il oq_X6_begin_2 rfl ?_
  refine ex_al oq_X6_begin_3 rfl ?_
  refine ex_gf oq_X6_begin_4 hT (k := 51) (d := 6) rfl rfl (ri_ref (k := 51) (k' := 1) (d := 6) (f := 0) hT rfl rfl rfl (by decide) (ri_uniq (by decide +kernel))) ?_
  refine ex_len oq_X6_begin_7 hT (k := 1) (d := 13) rfl rfl (by decide) (fun x12 hx12 => ?_)
  refine ex_min oq_X6_begin_8 (by decide) (Nat.le_of_ble_eq_true rfl) (fun x13 hx13 => ?_)
  refine ex_max oq_X6_begin_11 (by decide) (Nat.le_of_ble_eq_true rfl) (fun x14 hx14 => ?_)
  refine ex_pfi oq_X6_begin_14 hT (k := 51) (d := 6) rfl rfl rfl (by omega) (by omega) (fun h15 Th15 wh15 => ?_)
  have Fh15 : cw_Fr cw_Ds cw_sh kk_X6_begin.2.2.2.2.2.1 h0 h15 := cw_Fr_tr Fh0 (cw_Fr_wrf wh15 (k := 51) (d := 6) rfl rfl (by decide +kernel))
  have eh15_51_2 : ri_at h15 51 2 = x14.toInt := ri_self wh15
  have eh15_51_3 : ri_at h15 51 3 = ri_at h0 51 3 := ri_ne wh15 (.inr (by decide))
  refine ex_al oq_X6_begin_17 rfl ?_
  refine ex_ic oq_X6_begin_18 (m := 0) (by decide) (fun x16 hx16 => ?_)
  refine ex_pfi oq_X6_begin_19 Th15 (k := 51) (d := 6) rfl rfl rfl (by omega) (by omega) (fun h17 Th17 wh17 => ?_)
  have Fh17 : cw_Fr cw_Ds cw_sh kk_X6_begin.2.2.2.2.2.1 h0 h17 := cw_Fr_tr Fh15 (cw_Fr_wrf wh17 (k := 51) (d := 6) rfl rfl (by decide +kernel))
  have eh17_51_2 : ri_at h17 51 2 = x14.toInt := (ri_ne wh17 (.inr (by decide))).trans eh15_51_2
  clear eh15_51_2
  have eh17_51_3 : ri_at h17 51 3 = x16.toInt := ri_self wh17
  refine ex_al oq_X6_begin_22 rfl ?_
  refine ex_cv oq_X6_begin_23 (by decide) Th17 (k := 51) (d := 6) (as := []) (stk := []) rfl rfl rfl rfl rfl rfl ⟨rfl, rfl⟩ (R := fun o => ∃ hb : cv_H, o = (none, hb) ∧ cw_T G hb ∧ cw_Fr cw_Ds cw_sh kk_X6_step.2.2.2.2.2.1 h17 hb ∧ zC t n 0 hb) (ct_step (t := t) (n := n) (p := 0) (fun i => by rw [ht, ← hA _ Fh17]) (fun i hi => by rw [hB _ Fh17]; exact hwd i hi) Th17 hn9 (by omega) (by omega) (fun hb b1 b2 b3 b4 b5 b6 => ⟨hb, rfl, b1, b2, b3, b4, b5, b6⟩)) (fun o ho => ?_)
  obtain ⟨hb, rfl, Tb, Cb, Zb⟩ := ho
  show cw_X _ _ _ _ _ [] hb
  have Fhb : cw_Fr cw_Ds cw_sh kk_X6_begin.2.2.2.2.2.1 h0 hb := cw_Fr_tr Fh17 (cw_Fr_mono (by decide +kernel) Cb)
  exact ex_retv oq_X6_begin_26 rfl (hQ hb Tb Fhb Zb)
end TZ
