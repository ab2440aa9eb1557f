/-! ===== weeks, keep, back, and what a text leaves of them: the class ===== -/
section TZ
variable {G : Int} {X : cv_X} {Q : cv_O → Prop} {t : Nat → Int}
theorem oq_X3_clear_0 : cw_ho 41 0 (.aload_n 0) 1 0 0 0 := rfl
theorem oq_X3_clear_1 : cw_ho 41 1 (.iconst 0) 1 0 0 0 := rfl
theorem oq_X3_clear_2 : cw_ho 41 2 (.putfield 41) 3 3 9 0 := rfl
theorem oq_X3_clear_5 : cw_ho 41 5 (.aload_n 0) 1 0 0 0 := rfl
theorem oq_X3_clear_6 : cw_ho 41 6 (.iconst (-1)) 1 0 0 0 := rfl
theorem oq_X3_clear_7 : cw_ho 41 7 (.putfield 37) 3 3 10 0 := rfl
theorem oq_X3_clear_10 : cw_ho 41 10 (.return_) 1 0 0 0 := rfl
theorem ct_clear3 {h0 : cv_H} (hT : cw_T G h0) (hQ : ∀ h', cw_T G h' → cw_Fr cw_Ds cw_sh kk_X3_clear.2.2.2.2.2.1 h0 h' → ri_at h' 86 9 = 0 → ri_at h' 86 10 = -1 → Q (none, h')) : cw_X X 41 Q 0 (cv_ent 0 [cv_r 86]) [] h0 := by
  have Fh0 : cw_Fr cw_Ds cw_sh kk_X3_clear.2.2.2.2.2.1 h0 h0 := cw_Fr_refl
  refine ex_al oq_X3_clear_0 rfl ?_
  refine ex_ic oq_X3_clear_1 (m := 0) (by decide) (fun x11 hx11 => ?_)
  refine ex_pfi oq_X3_clear_2 hT (k := 86) (d := 3) rfl rfl rfl (by omega) (by omega) (fun h12 Th12 wh12 => ?_)
  have Fh12 : cw_Fr cw_Ds cw_sh kk_X3_clear.2.2.2.2.2.1 h0 h12 := cw_Fr_tr Fh0 (cw_Fr_wrf wh12 (k := 86) (d := 3) rfl rfl (by decide +kernel))
  have eh12_86_9 : ri_at h12 86 9 = x11.toInt := ri_self wh12
  have eh12_86_10 : ri_at h12 86 10 = ri_at h0 86 10 := ri_ne wh12 (.inr (by decide))
  refine ex_al oq_X3_clear_5 rfl ?_
  refine ex_ic oq_X3_clear_6 (m := (-1)) (by decide) (fun x13 hx13 => ?_)
  refine ex_pfi oq_X3_clear_7 Th12 (k := 86) (d := 3) rfl rfl rfl (by omega) (by omega) (fun h14 Th14 wh14 => ?_)
  have Fh14 : cw_Fr cw_Ds cw_sh kk_X3_clear.2.2.2.2.2.1 h0 h14 := cw_Fr_tr Fh12 (cw_Fr_wrf wh14 (k := 86) (d := 3) rfl rfl (by decide +kernel))
  have eh14_86_9 : ri_at h14 86 9 = x11.toInt := (ri_ne wh14 (.inr (by decide))).trans eh12_86_9
  clear eh12_86_9
  have eh14_86_10 : ri_at h14 86 10 = x13.toInt := ri_self wh14
  exact ex_retv oq_X3_clear_10 rfl (hQ h14 Th14 Fh14 (by omega) (by omega))
theorem oq_X10_clear_0 : cw_ho 101 0 (.aload_n 0) 1 0 0 0 := rfl
theorem oq_X10_clear_1 : cw_ho 101 1 (.iconst 0) 1 0 0 0 := rfl
theorem oq_X10_clear_2 : cw_ho 101 2 (.putfield 24) 3 10 2 0 := rfl
theorem oq_X10_clear_5 : cw_ho 101 5 (.return_) 1 0 0 0 := rfl
theorem ct_clear10 {h0 : cv_H} (hT : cw_T G h0) (hQ : ∀ h', cw_T G h' → cw_Fr cw_Ds cw_sh kk_X10_clear.2.2.2.2.2.1 h0 h' → ri_at h' 63 2 = 0 → Q (none, h')) : cw_X X 101 Q 0 (cv_ent 0 [cv_r 63]) [] h0 := by
  have Fh0 : cw_Fr cw_Ds cw_sh kk_X10_clear.2.2.2.2.2.1 h0 h0 := cw_Fr_refl
  refine ex_al oq_X10_clear_0 rfl ?_
  refine ex_ic oq_X10_clear_1 (m := 0) (by decide) (fun x11 hx11 => ?_)
  refine ex_pfi oq_X10_clear_2 hT (k := 63) (d := 10) rfl rfl rfl (cw_i32 _).1 (cw_i32 _).2 (fun h12 Th12 wh12 => ?_)
  have Fh12 : cw_Fr cw_Ds cw_sh kk_X10_clear.2.2.2.2.2.1 h0 h12 := cw_Fr_tr Fh0 (cw_Fr_wrf wh12 (k := 63) (d := 10) rfl rfl (by decide +kernel))
  have eh12_63_2 : ri_at h12 63 2 = x11.toInt := ri_self wh12
  exact ex_retv oq_X10_clear_5 rfl (hQ h12 Th12 Fh12 (by omega))
theorem oq_X11_takeSpare_0 : cw_ho 110 0 (.aload_n 0) 1 0 0 0 := rfl
theorem oq_X11_takeSpare_1 : cw_ho 110 1 (.getfield 18) 3 11 2 4 := rfl
theorem oq_X11_takeSpare_4 : cw_ho 110 4 (.astore_n 1) 1 0 0 0 := rfl
theorem oq_X11_takeSpare_5 : cw_ho 110 5 (.aload_n 0) 1 0 0 0 := rfl
theorem oq_X11_takeSpare_6 : cw_ho 110 6 (.aload_n 0) 1 0 0 0 := rfl
theorem oq_X11_takeSpare_7 : cw_ho 110 7 (.getfield 22) 3 11 3 4 := rfl
theorem oq_X11_takeSpare_10 : cw_ho 110 10 (.putfield 18) 3 11 2 4 := rfl
theorem oq_X11_takeSpare_13 : cw_ho 110 13 (.aload_n 0) 1 0 0 0 := rfl
theorem oq_X11_takeSpare_14 : cw_ho 110 14 (.aload_n 1) 1 0 0 0 := rfl
theorem oq_X11_takeSpare_15 : cw_ho 110 15 (.putfield 22) 3 11 3 4 := rfl
theorem oq_X11_takeSpare_18 : cw_ho 110 18 (.aload_n 0) 1 0 0 0 := rfl
theorem oq_X11_takeSpare_19 : cw_ho 110 19 (.getfield 37) 3 11 5 4 := rfl
theorem oq_X11_takeSpare_22 : cw_ho 110 22 (.invokevirtual 110) 3 29 0 2 := rfl
theorem oq_X11_takeSpare_25 : cw_ho 110 25 (.iconst 0) 1 0 0 0 := rfl
theorem oq_X11_takeSpare_26 : cw_ho 110 26 (.istore_n 2) 1 0 0 0 := rfl
theorem oq_X11_takeSpare_27 : cw_ho 110 27 (.iload_n 2) 1 0 0 0 := rfl
theorem oq_X11_takeSpare_28 : cw_ho 110 28 (.iconst 4) 1 0 0 0 := rfl
theorem oq_X11_takeSpare_29 : cw_ho 110 29 (.if_icmp .ge 23) 3 0 0 0 := rfl
theorem oq_X11_takeSpare_32 : cw_ho 110 32 (.aload_n 0) 1 0 0 0 := rfl
theorem oq_X11_takeSpare_33 : cw_ho 110 33 (.getfield 50) 3 11 7 4 := rfl
theorem oq_X11_takeSpare_36 : cw_ho 110 36 (.iload_n 2) 1 0 0 0 := rfl
theorem oq_X11_takeSpare_37 : cw_ho 110 37 (.aaload) 1 0 0 0 := rfl
theorem oq_X11_takeSpare_38 : cw_ho 110 38 (.aload_n 0) 1 0 0 0 := rfl
theorem oq_X11_takeSpare_39 : cw_ho 110 39 (.getfield 18) 3 11 2 4 := rfl
theorem oq_X11_takeSpare_42 : cw_ho 110 42 (.iload_n 2) 1 0 0 0 := rfl
theorem oq_X11_takeSpare_43 : cw_ho 110 43 (.invokevirtual 113) 3 14 2 1 := rfl
theorem oq_X11_takeSpare_46 : cw_ho 110 46 (.iinc 2 1) 3 0 0 0 := rfl
theorem oq_X11_takeSpare_49 : cw_ho 110 49 (.goto (-22)) 3 0 0 0 := rfl
theorem oq_X11_takeSpare_52 : cw_ho 110 52 (.aload_n 0) 1 0 0 0 := rfl
theorem oq_X11_takeSpare_53 : cw_ho 110 53 (.iconst 0) 1 0 0 0 := rfl
theorem oq_X11_takeSpare_54 : cw_ho 110 54 (.putfield 117) 3 11 8 0 := rfl
theorem oq_X11_takeSpare_57 : cw_ho 110 57 (.aload_n 0) 1 0 0 0 := rfl
theorem oq_X11_takeSpare_58 : cw_ho 110 58 (.iconst (-1)) 1 0 0 0 := rfl
theorem oq_X11_takeSpare_59 : cw_ho 110 59 (.putfield 57) 3 11 10 0 := rfl
theorem oq_X11_takeSpare_62 : cw_ho 110 62 (.aload_n 0) 1 0 0 0 := rfl
theorem oq_X11_takeSpare_63 : cw_ho 110 63 (.getfield 66) 3 11 11 4 := rfl
theorem oq_X11_takeSpare_66 : cw_ho 110 66 (.invokevirtual 120) 3 101 0 10 := rfl
theorem oq_X11_takeSpare_69 : cw_ho 110 69 (.aload_n 0) 1 0 0 0 := rfl
theorem oq_X11_takeSpare_70 : cw_ho 110 70 (.getfield 73) 3 11 12 4 := rfl
theorem oq_X11_takeSpare_73 : cw_ho 110 73 (.invokevirtual 123) 3 41 0 3 := rfl
theorem oq_X11_takeSpare_76 : cw_ho 110 76 (.return_) 1 0 0 0 := rfl
set_option maxHeartbeats 8000000 in
theorem ct_takeSpare {h0 : cv_H} (hX : cw_Xok X) (hT : cw_T G h0) (hP : cw_PP G h0) (hQ : ∀ h', cw_T G h' → cw_PP G h' → cw_Fr cw_Ds cw_sh kk_X11_takeSpare.2.2.2.2.2.1 h0 h' → (ri_at h' 0 8 = 0 ∧ ri_at h' 0 10 = -1 ∧ ri_at h' 86 9 = 0 ∧ ri_at h' 86 10 = -1 ∧ ri_at h' 63 2 = 0) → Q (none, h')) : cw_X X 110 Q 0 (cv_ent 0 [cv_r 0]) [] h0 := by
  have Fh0 : cw_Fr cw_Ds cw_sh kk_X11_takeSpare.2.2.2.2.2.1 h0 h0 := cw_Fr_refl
  refine ex_al oq_X11_takeSpare_0 rfl ?_
  obtain ⟨k101, ak101, sk101⟩ := ri_refs (k := 0) (d := 11) (f := 2) hT rfl rfl rfl (by decide)
  refine ex_gf oq_X11_takeSpare_1 hT (k := 0) (d := 11) rfl rfl ak101 ?_
  refine ex_asA oq_X11_takeSpare_4 (fun L102 gL102_1 kL102 => ?_)
  have gL102_0 : cv_get L102 0 = some (cv_r 0) := kL102 0 _ (by decide) (fun _ => rfl) rfl
  refine ex_al oq_X11_takeSpare_5 gL102_0 ?_
  refine ex_al oq_X11_takeSpare_6 gL102_0 ?_
  obtain ⟨k103, ak103, sk103⟩ := ri_refs (k := 0) (d := 11) (f := 3) hT rfl rfl rfl (by decide)
  refine ex_gf oq_X11_takeSpare_7 hT (k := 0) (d := 11) rfl rfl ak103 ?_
  refine ex_pfr oq_X11_takeSpare_10 hT (k := 0) (d := 11) (v := k103) rfl rfl rfl (by decide) sk103 rfl (fun h104 Th104 wh104 => ?_)
  have Fh104 : cw_Fr cw_Ds cw_sh kk_X11_takeSpare.2.2.2.2.2.1 h0 h104 := cw_Fr_tr Fh0 (cw_Fr_wrf wh104 (k := 0) (d := 11) rfl rfl (by decide +kernel))
  have eh104_0_8 : ri_at h104 0 8 = ri_at h0 0 8 := ri_ne wh104 (.inr (by decide))
  have eh104_0_10 : ri_at h104 0 10 = ri_at h0 0 10 := ri_ne wh104 (.inr (by decide))
  have eh104_86_9 : ri_at h104 86 9 = ri_at h0 86 9 := ri_ne wh104 (.inl (by decide))
  have eh104_86_10 : ri_at h104 86 10 = ri_at h0 86 10 := ri_ne wh104 (.inl (by decide))
  have eh104_63_2 : ri_at h104 63 2 = ri_at h0 63 2 := ri_ne wh104 (.inl (by decide))
  refine ex_al oq_X11_takeSpare_13 gL102_0 ?_
  refine ex_al oq_X11_takeSpare_14 gL102_1 ?_
  refine ex_pfr oq_X11_takeSpare_15 Th104 (k := 0) (d := 11) (v := k101) rfl rfl rfl (by decide) sk101 rfl (fun h105 Th105 wh105 => ?_)
  have Fh105 : cw_Fr cw_Ds cw_sh kk_X11_takeSpare.2.2.2.2.2.1 h0 h105 := cw_Fr_tr Fh104 (cw_Fr_wrf wh105 (k := 0) (d := 11) rfl rfl (by decide +kernel))
  have eh105_0_8 : ri_at h105 0 8 = ri_at h0 0 8 := (ri_ne wh105 (.inr (by decide))).trans eh104_0_8
  clear eh104_0_8
  have eh105_0_10 : ri_at h105 0 10 = ri_at h0 0 10 := (ri_ne wh105 (.inr (by decide))).trans eh104_0_10
  clear eh104_0_10
  have eh105_86_9 : ri_at h105 86 9 = ri_at h0 86 9 := (ri_ne wh105 (.inl (by decide))).trans eh104_86_9
  clear eh104_86_9
  have eh105_86_10 : ri_at h105 86 10 = ri_at h0 86 10 := (ri_ne wh105 (.inl (by decide))).trans eh104_86_10
  clear eh104_86_10
  have eh105_63_2 : ri_at h105 63 2 = ri_at h0 63 2 := (ri_ne wh105 (.inl (by decide))).trans eh104_63_2
  clear eh104_63_2
  refine ex_al oq_X11_takeSpare_18 gL102_0 ?_
  refine ex_gf oq_X11_takeSpare_19 Th105 (k := 0) (d := 11) rfl rfl (ri_ref (k := 0) (k' := 55) (d := 11) (f := 5) Th105 rfl rfl rfl (by decide) (ri_uniq (by decide +kernel))) ?_
  have Ph105 : cw_PP G h105 := pp_fr0 (by decide +kernel) hP Fh105
  refine ex_cv oq_X11_takeSpare_22 (by decide) Th105 (k := 55) (d := 2) (as := []) (stk := []) rfl rfl rfl rfl rfl rfl ⟨rfl, rfl⟩ (cw_HX hz_X2_forget rfl (cw_Xok_no2 hX) ⟨Th105, Ph105⟩ ⟨.inl ⟨by decide, 55, rfl, rfl⟩, trivial⟩ (fun t ht => absurd ht List.not_mem_nil)) (fun ox107 hox107 => ?_)
  obtain ⟨h106, rfl, Th106, Ph106, Ch106⟩ := po_non hox107 rfl
  show cw_X _ _ _ _ _ [] h106
  have Fh106 : cw_Fr cw_Ds cw_sh kk_X11_takeSpare.2.2.2.2.2.1 h0 h106 := cw_Fr_tr Fh105 (cw_Fr_mono (by decide +kernel) Ch106)
  have eh106_0_8 : ri_at h106 0 8 = ri_at h0 0 8 := (ri_frf Ch106 (k := 0) (d := 11) rfl rfl (by decide +kernel)).trans eh105_0_8
  clear eh105_0_8
  have eh106_0_10 : ri_at h106 0 10 = ri_at h0 0 10 := (ri_frf Ch106 (k := 0) (d := 11) rfl rfl (by decide +kernel)).trans eh105_0_10
  clear eh105_0_10
  have eh106_86_9 : ri_at h106 86 9 = ri_at h0 86 9 := (ri_frf Ch106 (k := 86) (d := 3) rfl rfl (by decide +kernel)).trans eh105_86_9
  clear eh105_86_9
  have eh106_86_10 : ri_at h106 86 10 = ri_at h0 86 10 := (ri_frf Ch106 (k := 86) (d := 3) rfl rfl (by decide +kernel)).trans eh105_86_10
  clear eh105_86_10
  have eh106_63_2 : ri_at h106 63 2 = ri_at h0 63 2 := (ri_frf Ch106 (k := 63) (d := 10) rfl rfl (by decide +kernel)).trans eh105_63_2
  clear eh105_63_2
  refine ex_ic oq_X11_takeSpare_25 (m := 0) (by decide) (fun x108 hx108 => ?_)
  refine ex_isA oq_X11_takeSpare_26 (fun L109 gL109_2 kL109 => ?_)
  have gL109_1 : cv_get L109 1 = some (cv_r k101) := kL109 1 _ (by decide) (fun _ => rfl) gL102_1
  have gL109_0 : cv_get L109 0 = some (cv_r 0) := kL109 0 _ (by decide) (fun q => absurd q (by decide)) gL102_0
  refine ex_il oq_X11_takeSpare_27 gL109_2 ?_
  refine ex_ic oq_X11_takeSpare_28 (m := 4) (by decide) (fun x110 hx110 => ?_)
  refine ex_if oq_X11_takeSpare_29 (t := 52) rfl rfl (fun (c111 : x110.toInt ≤ x108.toInt) => ?_) (fun (c111 : ¬ (x110.toInt ≤ x108.toInt)) => ?_)
  · exfalso; omega
  · refine ex_al oq_X11_takeSpare_32 gL109_0 ?_
    refine ex_gf oq_X11_takeSpare_33 Th106 (k := 0) (d := 11) rfl rfl (ri_ref (k := 0) (k' := 61) (d := 11) (f := 7) Th106 rfl rfl rfl (by decide) (ri_uniq (by decide +kernel))) ?_
    refine ex_il oq_X11_takeSpare_36 gL109_2 ?_
    refine ex_aa oq_X11_takeSpare_37 Th106 (k := 61) (d := 14) (j := x108.toInt.toNat) rfl rfl (by omega) (by omega) (fun k112 ak112 sk112 => ?_)
    refine ex_al oq_X11_takeSpare_38 gL109_0 ?_
    obtain ⟨k113, ak113, sk113⟩ := ri_refs (k := 0) (d := 11) (f := 2) Th106 rfl rfl rfl (by decide)
    refine ex_gf oq_X11_takeSpare_39 Th106 (k := 0) (d := 11) rfl rfl ak113 ?_
    refine ex_il oq_X11_takeSpare_42 gL109_2 ?_
    have Ph106 : cw_PP G h106 := pp_fr0 (by decide +kernel) hP Fh106
    refine ex_cv oq_X11_takeSpare_43 (by decide) Th106 (k := k112) (d := 1) (as := [cv_r k113, cv_i x108]) (stk := []) sk112 rfl rfl rfl rfl rfl ⟨rfl, rfl⟩ (cw_HX hz_X1_begin rfl (cw_Xok_no2 hX) ⟨Th106, Ph106⟩ ⟨.inl ⟨by decide, k112, rfl, sk112⟩, .inl ⟨by decide, k113, rfl, sk113⟩, ⟨_, rfl, cw_top_ok _⟩, trivial⟩ (fun t ht => absurd ht List.not_mem_nil)) (fun ox115 hox115 => ?_)
    obtain ⟨h114, rfl, Th114, Ph114, Ch114⟩ := po_non hox115 rfl
    show cw_X _ _ _ _ _ [] h114
    have Fh114 : cw_Fr cw_Ds cw_sh kk_X11_takeSpare.2.2.2.2.2.1 h0 h114 := cw_Fr_tr Fh106 (cw_Fr_mono (by decide +kernel) Ch114)
    have eh114_0_8 : ri_at h114 0 8 = ri_at h0 0 8 := (ri_frf Ch114 (k := 0) (d := 11) rfl rfl (by decide +kernel)).trans eh106_0_8
    clear eh106_0_8
    have eh114_0_10 : ri_at h114 0 10 = ri_at h0 0 10 := (ri_frf Ch114 (k := 0) (d := 11) rfl rfl (by decide +kernel)).trans eh106_0_10
    clear eh106_0_10
    have eh114_86_9 : ri_at h114 86 9 = ri_at h0 86 9 := (ri_frf Ch114 (k := 86) (d := 3) rfl rfl (by decide +kernel)).trans eh106_86_9
    clear eh106_86_9
    have eh114_86_10 : ri_at h114 86 10 = ri_at h0 86 10 := (ri_frf Ch114 (k := 86) (d := 3) rfl rfl (by decide +kernel)).trans eh106_86_10
    clear eh106_86_10
    have eh114_63_2 : ri_at h114 63 2 = ri_at h0 63 2 := (ri_frf Ch114 (k := 63) (d := 10) rfl rfl (by decide +kernel)).trans eh106_63_2
    clear eh106_63_2
    refine ex_incA oq_X11_takeSpare_46 (v := x108) (m := 1) gL109_2 (by decide) (by omega) (fun L117 x116 hx116 gL117_2 kL117 => ?_)
    have gL117_1 : cv_get L117 1 = some (cv_r k101) := kL117 1 _ (by decide) (fun _ => rfl) gL109_1
    have gL117_0 : cv_get L117 0 = some (cv_r 0) := kL117 0 _ (by decide) (fun q => absurd q (by decide)) gL109_0
    refine ex_go oq_X11_takeSpare_49 (t := 27) rfl rfl ?_
    refine ex_il oq_X11_takeSpare_27 gL117_2 ?_
    refine ex_ic oq_X11_takeSpare_28 (m := 4) (by decide) (fun x118 hx118 => ?_)
    refine ex_if oq_X11_takeSpare_29 (t := 52) rfl rfl (fun (c119 : x118.toInt ≤ x116.toInt) => ?_) (fun (c119 : ¬ (x118.toInt ≤ x116.toInt)) => ?_)
    · exfalso; omega
    · refine ex_al oq_X11_takeSpare_32 gL117_0 ?_
      refine ex_gf oq_X11_takeSpare_33 Th114 (k := 0) (d := 11) rfl rfl (ri_ref (k := 0) (k' := 61) (d := 11) (f := 7) Th114 rfl rfl rfl (by decide) (ri_uniq (by decide +kernel))) ?_
      refine ex_il oq_X11_takeSpare_36 gL117_2 ?_
      refine ex_aa oq_X11_takeSpare_37 Th114 (k := 61) (d := 14) (j := x116.toInt.toNat) rfl rfl (by omega) (by omega) (fun k120 ak120 sk120 => ?_)
      refine ex_al oq_X11_takeSpare_38 gL117_0 ?_
      obtain ⟨k121, ak121, sk121⟩ := ri_refs (k := 0) (d := 11) (f := 2) Th114 rfl rfl rfl (by decide)
      refine ex_gf oq_X11_takeSpare_39 Th114 (k := 0) (d := 11) rfl rfl ak121 ?_
      refine ex_il oq_X11_takeSpare_42 gL117_2 ?_
      have Ph114 : cw_PP G h114 := pp_fr0 (by decide +kernel) hP Fh114
      refine ex_cv oq_X11_takeSpare_43 (by decide) Th114 (k := k120) (d := 1) (as := [cv_r k121, cv_i x116]) (stk := []) sk120 rfl rfl rfl rfl rfl ⟨rfl, rfl⟩ (cw_HX hz_X1_begin rfl (cw_Xok_no2 hX) ⟨Th114, Ph114⟩ ⟨.inl ⟨by decide, k120, rfl, sk120⟩, .inl ⟨by decide, k121, rfl, sk121⟩, ⟨_, rfl, cw_top_ok _⟩, trivial⟩ (fun t ht => absurd ht List.not_mem_nil)) (fun ox123 hox123 => ?_)
      obtain ⟨h122, rfl, Th122, Ph122, Ch122⟩ := po_non hox123 rfl
      show cw_X _ _ _ _ _ [] h122
      have Fh122 : cw_Fr cw_Ds cw_sh kk_X11_takeSpare.2.2.2.2.2.1 h0 h122 := cw_Fr_tr Fh114 (cw_Fr_mono (by decide +kernel) Ch122)
      have eh122_0_8 : ri_at h122 0 8 = ri_at h0 0 8 := (ri_frf Ch122 (k := 0) (d := 11) rfl rfl (by decide +kernel)).trans eh114_0_8
      clear eh114_0_8
      have eh122_0_10 : ri_at h122 0 10 = ri_at h0 0 10 := (ri_frf Ch122 (k := 0) (d := 11) rfl rfl (by decide +kernel)).trans eh114_0_10
      clear eh114_0_10
      have eh122_86_9 : ri_at h122 86 9 = ri_at h0 86 9 := (ri_frf Ch122 (k := 86) (d := 3) rfl rfl (by decide +kernel)).trans eh114_86_9
      clear eh114_86_9
      have eh122_86_10 : ri_at h122 86 10 = ri_at h0 86 10 := (ri_frf Ch122 (k := 86) (d := 3) rfl rfl (by decide +kernel)).trans eh114_86_10
      clear eh114_86_10
      have eh122_63_2 : ri_at h122 63 2 = ri_at h0 63 2 := (ri_frf Ch122 (k := 63) (d := 10) rfl rfl (by decide +kernel)).trans eh114_63_2
      clear eh114_63_2
      refine ex_incA oq_X11_takeSpare_46 (v := x116) (m := 1) gL117_2 (by decide) (by omega) (fun L125 x124 hx124 gL125_2 kL125 => ?_)
      have gL125_1 : cv_get L125 1 = some (cv_r k101) := kL125 1 _ (by decide) (fun _ => rfl) gL117_1
      have gL125_0 : cv_get L125 0 = some (cv_r 0) := kL125 0 _ (by decide) (fun q => absurd q (by decide)) gL117_0
      refine ex_go oq_X11_takeSpare_49 (t := 27) rfl rfl ?_
      refine ex_il oq_X11_takeSpare_27 gL125_2 ?_
      refine ex_ic oq_X11_takeSpare_28 (m := 4) (by decide) (fun x126 hx126 => ?_)
      refine ex_if oq_X11_takeSpare_29 (t := 52) rfl rfl (fun (c127 : x126.toInt ≤ x124.toInt) => ?_) (fun (c127 : ¬ (x126.toInt ≤ x124.toInt)) => ?_)
      · exfalso; omega
      · refine ex_al oq_X11_takeSpare_32 gL125_0 ?_
        refine ex_gf oq_X11_takeSpare_33 Th122 (k := 0) (d := 11) rfl rfl (ri_ref (k := 0) (k' := 61) (d := 11) (f := 7) Th122 rfl rfl rfl (by decide) (ri_uniq (by decide +kernel))) ?_
        refine ex_il oq_X11_takeSpare_36 gL125_2 ?_
        refine ex_aa oq_X11_takeSpare_37 Th122 (k := 61) (d := 14) (j := x124.toInt.toNat) rfl rfl (by omega) (by omega) (fun k128 ak128 sk128 => ?_)
        refine ex_al oq_X11_takeSpare_38 gL125_0 ?_
        obtain ⟨k129, ak129, sk129⟩ := ri_refs (k := 0) (d := 11) (f := 2) Th122 rfl rfl rfl (by decide)
        refine ex_gf oq_X11_takeSpare_39 Th122 (k := 0) (d := 11) rfl rfl ak129 ?_
        refine ex_il oq_X11_takeSpare_42 gL125_2 ?_
        have Ph122 : cw_PP G h122 := pp_fr0 (by decide +kernel) hP Fh122
        refine ex_cv oq_X11_takeSpare_43 (by decide) Th122 (k := k128) (d := 1) (as := [cv_r k129, cv_i x124]) (stk := []) sk128 rfl rfl rfl rfl rfl ⟨rfl, rfl⟩ (cw_HX hz_X1_begin rfl (cw_Xok_no2 hX) ⟨Th122, Ph122⟩ ⟨.inl ⟨by decide, k128, rfl, sk128⟩, .inl ⟨by decide, k129, rfl, sk129⟩, ⟨_, rfl, cw_top_ok _⟩, trivial⟩ (fun t ht => absurd ht List.not_mem_nil)) (fun ox131 hox131 => ?_)
        obtain ⟨h130, rfl, Th130, Ph130, Ch130⟩ := po_non hox131 rfl
        show cw_X _ _ _ _ _ [] h130
        have Fh130 : cw_Fr cw_Ds cw_sh kk_X11_takeSpare.2.2.2.2.2.1 h0 h130 := cw_Fr_tr Fh122 (cw_Fr_mono (by decide +kernel) Ch130)
        have eh130_0_8 : ri_at h130 0 8 = ri_at h0 0 8 := (ri_frf Ch130 (k := 0) (d := 11) rfl rfl (by decide +kernel)).trans eh122_0_8
        clear eh122_0_8
        have eh130_0_10 : ri_at h130 0 10 = ri_at h0 0 10 := (ri_frf Ch130 (k := 0) (d := 11) rfl rfl (by decide +kernel)).trans eh122_0_10
        clear eh122_0_10
        have eh130_86_9 : ri_at h130 86 9 = ri_at h0 86 9 := (ri_frf Ch130 (k := 86) (d := 3) rfl rfl (by decide +kernel)).trans eh122_86_9
        clear eh122_86_9
        have eh130_86_10 : ri_at h130 86 10 = ri_at h0 86 10 := (ri_frf Ch130 (k := 86) (d := 3) rfl rfl (by decide +kernel)).trans eh122_86_10
        clear eh122_86_10
        have eh130_63_2 : ri_at h130 63 2 = ri_at h0 63 2 := (ri_frf Ch130 (k := 63) (d := 10) rfl rfl (by decide +kernel)).trans eh122_63_2
        clear eh122_63_2
        refine ex_incA oq_X11_takeSpare_46 (v := x124) (m := 1) gL125_2 (by decide) (by omega) (fun L133 x132 hx132 gL133_2 kL133 => ?_)
        have gL133_1 : cv_get L133 1 = some (cv_r k101) := kL133 1 _ (by decide) (fun _ => rfl) gL125_1
        have gL133_0 : cv_get L133 0 = some (cv_r 0) := kL133 0 _ (by decide) (fun q => absurd q (by decide)) gL125_0
        refine ex_go oq_X11_takeSpare_49 (t := 27) rfl rfl ?_
        refine ex_il oq_X11_takeSpare_27 gL133_2 ?_
        refine ex_ic oq_X11_takeSpare_28 (m := 4) (by decide) (fun x134 hx134 => ?_)
        refine ex_if oq_X11_takeSpare_29 (t := 52) rfl rfl (fun (c135 : x134.toInt ≤ x132.toInt) => ?_) (fun (c135 : ¬ (x134.toInt ≤ x132.toInt)) => ?_)
        · exfalso; omega
        · refine ex_al oq_X11_takeSpare_32 gL133_0 ?_
          refine ex_gf oq_X11_takeSpare_33 Th130 (k := 0) (d := 11) rfl rfl (ri_ref (k := 0) (k' := 61) (d := 11) (f := 7) Th130 rfl rfl rfl (by decide) (ri_uniq (by decide +kernel))) ?_
          refine ex_il oq_X11_takeSpare_36 gL133_2 ?_
          refine ex_aa oq_X11_takeSpare_37 Th130 (k := 61) (d := 14) (j := x132.toInt.toNat) rfl rfl (by omega) (by omega) (fun k136 ak136 sk136 => ?_)
          refine ex_al oq_X11_takeSpare_38 gL133_0 ?_
          obtain ⟨k137, ak137, sk137⟩ := ri_refs (k := 0) (d := 11) (f := 2) Th130 rfl rfl rfl (by decide)
          refine ex_gf oq_X11_takeSpare_39 Th130 (k := 0) (d := 11) rfl rfl ak137 ?_
          refine ex_il oq_X11_takeSpare_42 gL133_2 ?_
          have Ph130 : cw_PP G h130 := pp_fr0 (by decide +kernel) hP Fh130
          refine ex_cv oq_X11_takeSpare_43 (by decide) Th130 (k := k136) (d := 1) (as := [cv_r k137, cv_i x132]) (stk := []) sk136 rfl rfl rfl rfl rfl ⟨rfl, rfl⟩ (cw_HX hz_X1_begin rfl (cw_Xok_no2 hX) ⟨Th130, Ph130⟩ ⟨.inl ⟨by decide, k136, rfl, sk136⟩, .inl ⟨by decide, k137, rfl, sk137⟩, ⟨_, rfl, cw_top_ok _⟩, trivial⟩ (fun t ht => absurd ht List.not_mem_nil)) (fun ox139 hox139 => ?_)
          obtain ⟨h138, rfl, Th138, Ph138, Ch138⟩ := po_non hox139 rfl
          show cw_X _ _ _ _ _ [] h138
          have Fh138 : cw_Fr cw_Ds cw_sh kk_X11_takeSpare.2.2.2.2.2.1 h0 h138 := cw_Fr_tr Fh130 (cw_Fr_mono (by decide +kernel) Ch138)
          have eh138_0_8 : ri_at h138 0 8 = ri_at h0 0 8 := (ri_frf Ch138 (k := 0) (d := 11) rfl rfl (by decide +kernel)).trans eh130_0_8
          clear eh130_0_8
          have eh138_0_10 : ri_at h138 0 10 = ri_at h0 0 10 := (ri_frf Ch138 (k := 0) (d := 11) rfl rfl (by decide +kernel)).trans eh130_0_10
          clear eh130_0_10
          have eh138_86_9 : ri_at h138 86 9 = ri_at h0 86 9 := (ri_frf Ch138 (k := 86) (d := 3) rfl rfl (by decide +kernel)).trans eh130_86_9
          clear eh130_86_9
          have eh138_86_10 : ri_at h138 86 10 = ri_at h0 86 10 := (ri_frf Ch138 (k := 86) (d := 3) rfl rfl (by decide +kernel)).trans eh130_86_10
          clear eh130_86_10
          have eh138_63_2 : ri_at h138 63 2 = ri_at h0 63 2 := (ri_frf Ch138 (k := 63) (d := 10) rfl rfl (by decide +kernel)).trans eh130_63_2
          clear eh130_63_2
          refine ex_incA oq_X11_takeSpare_46 (v := x132) (m := 1) gL133_2 (by decide) (by omega) (fun L141 x140 hx140 gL141_2 kL141 => ?_)
          have gL141_1 : cv_get L141 1 = some (cv_r k101) := kL141 1 _ (by decide) (fun _ => rfl) gL133_1
          have gL141_0 : cv_get L141 0 = some (cv_r 0) := kL141 0 _ (by decide) (fun q => absurd q (by decide)) gL133_0
          refine ex_go oq_X11_takeSpare_49 (t := 27) rfl rfl ?_
          refine ex_il oq_X11_takeSpare_27 gL141_2 ?_
          refine ex_ic oq_X11_takeSpare_28 (m := 4) (by decide) (fun x142 hx142 => ?_)
          refine ex_if oq_X11_takeSpare_29 (t := 52) rfl rfl (fun (c143 : x142.toInt ≤ x140.toInt) => ?_) (fun (c143 : ¬ (x142.toInt ≤ x140.toInt)) => ?_)
          · refine ex_al oq_X11_takeSpare_52 gL141_0 ?_
            refine ex_ic oq_X11_takeSpare_53 (m := 0) (by decide) (fun x144 hx144 => ?_)
            refine ex_pfi oq_X11_takeSpare_54 Th138 (k := 0) (d := 11) rfl rfl rfl (by omega) (by omega) (fun h145 Th145 wh145 => ?_)
            have Fh145 : cw_Fr cw_Ds cw_sh kk_X11_takeSpare.2.2.2.2.2.1 h0 h145 := cw_Fr_tr Fh138 (cw_Fr_wrf wh145 (k := 0) (d := 11) rfl rfl (by decide +kernel))
            have eh145_0_8 : ri_at h145 0 8 = x144.toInt := ri_self wh145
            have eh145_0_10 : ri_at h145 0 10 = ri_at h0 0 10 := (ri_ne wh145 (.inr (by decide))).trans eh138_0_10
            clear eh138_0_10
            have eh145_86_9 : ri_at h145 86 9 = ri_at h0 86 9 := (ri_ne wh145 (.inl (by decide))).trans eh138_86_9
            clear eh138_86_9
            have eh145_86_10 : ri_at h145 86 10 = ri_at h0 86 10 := (ri_ne wh145 (.inl (by decide))).trans eh138_86_10
            clear eh138_86_10
            have eh145_63_2 : ri_at h145 63 2 = ri_at h0 63 2 := (ri_ne wh145 (.inl (by decide))).trans eh138_63_2
            clear eh138_63_2
            refine ex_al oq_X11_takeSpare_57 gL141_0 ?_
            refine ex_ic oq_X11_takeSpare_58 (m := (-1)) (by decide) (fun x146 hx146 => ?_)
            refine ex_pfi oq_X11_takeSpare_59 Th145 (k := 0) (d := 11) rfl rfl rfl (by omega) (by omega) (fun h147 Th147 wh147 => ?_)
            have Fh147 : cw_Fr cw_Ds cw_sh kk_X11_takeSpare.2.2.2.2.2.1 h0 h147 := cw_Fr_tr Fh145 (cw_Fr_wrf wh147 (k := 0) (d := 11) rfl rfl (by decide +kernel))
            have eh147_0_8 : ri_at h147 0 8 = x144.toInt := (ri_ne wh147 (.inr (by decide))).trans eh145_0_8
            clear eh145_0_8
            have eh147_0_10 : ri_at h147 0 10 = x146.toInt := ri_self wh147
            have eh147_86_9 : ri_at h147 86 9 = ri_at h0 86 9 := (ri_ne wh147 (.inl (by decide))).trans eh145_86_9
            clear eh145_86_9
            have eh147_86_10 : ri_at h147 86 10 = ri_at h0 86 10 := (ri_ne wh147 (.inl (by decide))).trans eh145_86_10
            clear eh145_86_10
            have eh147_63_2 : ri_at h147 63 2 = ri_at h0 63 2 := (ri_ne wh147 (.inl (by decide))).trans eh145_63_2
            clear eh145_63_2
            refine ex_al oq_X11_takeSpare_62 gL141_0 ?_
            refine ex_gf oq_X11_takeSpare_63 Th147 (k := 0) (d := 11) rfl rfl (ri_ref (k := 0) (k' := 63) (d := 11) (f := 11) Th147 rfl rfl rfl (by decide) (ri_uniq (by decide +kernel))) ?_
            refine ex_cv oq_X11_takeSpare_66 (by decide) Th147 (k := 63) (d := 10) (as := []) (stk := []) rfl rfl rfl rfl rfl rfl ⟨rfl, rfl⟩ (R := fun o => ∃ hb : cv_H, o = (none, hb) ∧ cw_T G hb ∧ cw_Fr cw_Ds cw_sh kk_X10_clear.2.2.2.2.2.1 h147 hb ∧ ri_at hb 63 2 = 0) (ct_clear10 Th147 (fun hb b1 b2 c0 => ⟨hb, rfl, b1, b2, c0⟩)) (fun o ho => ?_)
            obtain ⟨h148, rfl, Th148, Ch148, mh148_0⟩ := ho
            show cw_X _ _ _ _ _ [] h148
            have Fh148 : cw_Fr cw_Ds cw_sh kk_X11_takeSpare.2.2.2.2.2.1 h0 h148 := cw_Fr_tr Fh147 (cw_Fr_mono (by decide +kernel) Ch148)
            have eh148_0_8 : ri_at h148 0 8 = x144.toInt := (ri_frf Ch148 (k := 0) (d := 11) rfl rfl (by decide +kernel)).trans eh147_0_8
            clear eh147_0_8
            have eh148_0_10 : ri_at h148 0 10 = x146.toInt := (ri_frf Ch148 (k := 0) (d := 11) rfl rfl (by decide +kernel)).trans eh147_0_10
            clear eh147_0_10
            have eh148_86_9 : ri_at h148 86 9 = ri_at h0 86 9 := (ri_frf Ch148 (k := 86) (d := 3) rfl rfl (by decide +kernel)).trans eh147_86_9
            clear eh147_86_9
            have eh148_86_10 : ri_at h148 86 10 = ri_at h0 86 10 := (ri_frf Ch148 (k := 86) (d := 3) rfl rfl (by decide +kernel)).trans eh147_86_10
            clear eh147_86_10
            refine ex_al oq_X11_takeSpare_69 gL141_0 ?_
            refine ex_gf oq_X11_takeSpare_70 Th148 (k := 0) (d := 11) rfl rfl (ri_ref (k := 0) (k' := 86) (d := 11) (f := 12) Th148 rfl rfl rfl (by decide) (ri_uniq (by decide +kernel))) ?_
            refine ex_cv oq_X11_takeSpare_73 (by decide) Th148 (k := 86) (d := 3) (as := []) (stk := []) rfl rfl rfl rfl rfl rfl ⟨rfl, rfl⟩ (R := fun o => ∃ hb : cv_H, o = (none, hb) ∧ cw_T G hb ∧ cw_Fr cw_Ds cw_sh kk_X3_clear.2.2.2.2.2.1 h148 hb ∧ ri_at hb 86 9 = 0 ∧ ri_at hb 86 10 = -1) (ct_clear3 Th148 (fun hb b1 b2 c0 c1 => ⟨hb, rfl, b1, b2, c0, c1⟩)) (fun o ho => ?_)
            obtain ⟨h149, rfl, Th149, Ch149, mh149_0, mh149_1⟩ := ho
            show cw_X _ _ _ _ _ [] h149
            have Fh149 : cw_Fr cw_Ds cw_sh kk_X11_takeSpare.2.2.2.2.2.1 h0 h149 := cw_Fr_tr Fh148 (cw_Fr_mono (by decide +kernel) Ch149)
            have eh149_0_8 : ri_at h149 0 8 = x144.toInt := (ri_frf Ch149 (k := 0) (d := 11) rfl rfl (by decide +kernel)).trans eh148_0_8
            clear eh148_0_8
            have eh149_0_10 : ri_at h149 0 10 = x146.toInt := (ri_frf Ch149 (k := 0) (d := 11) rfl rfl (by decide +kernel)).trans eh148_0_10
            clear eh148_0_10
            have eh149_63_2 : ri_at h149 63 2 = (0 : Int) := (ri_frf Ch149 (k := 63) (d := 10) rfl rfl (by decide +kernel)).trans mh148_0
            exact ex_retv oq_X11_takeSpare_76 rfl (hQ h149 Th149 (pp_fr0 (by decide +kernel) hP Fh149) Fh149 ⟨by omega, by omega, by omega, by omega, by omega⟩)
          · exfalso; omega
end TZ
