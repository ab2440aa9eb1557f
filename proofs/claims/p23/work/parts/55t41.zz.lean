/-! ===== text of the class: the plan that it takes ===== -/
theorem sh_4 {k : Nat} (h : cw_sh[k]? = some 4) : k = 2 ∨ k = 26 := by
  have hlt := (List.getElem?_eq_some_iff.mp h).1
  have c : (List.range cw_sh.length).all (fun j => !(cw_sh[j]? == some 4) || (j == 2 || j == 26)) = true := by decide +kernel
  have := List.all_eq_true.mp c k (List.mem_range.mpr hlt)
  rw [h] at this
  simpa using this
theorem ztx_k {t : Nat → Int} {n : Nat} : ∀ (u : Nat) (k : Int) (s : zSg) (p : Nat) (s' : zSg) (k' : Int), ztx t n u k s p = .inr (s', k') → k ≤ k'
  | 0, k, s, p, s', k', e => by cases e; exact Int.le_refl _
  | u + 1, k, s, p, s', k', e => by
    rw [ztx_s] at e
    by_cases c : zk t n p = 0
    · rw [if_pos c] at e; cases e; exact Int.le_refl _
    · rw [if_neg c] at e
      obtain ⟨s1, q, -, e2⟩ := zb2_e e
      have := ztx_k u _ _ _ _ _ e2
      omega
theorem zTc_fr {m : Nat} {S : (Int × Nat) ⊕ (zSg × Int)} {x : Int32} {h h' : cv_H} (C : cw_Fr cw_Ds cw_sh m h h') (q : (!cw_bit m 5 4 && !cw_bit m 5 5) = true) (hz : zTc S x h) : zTc S x h' := by
  rw [Bool.and_eq_true] at q
  have e4 : ri_at h' 50 4 = ri_at h 50 4 := ri_frf C (k := 50) (d := 5) rfl rfl (by simpa using q.1)
  have e5 : ri_at h' 50 5 = ri_at h 50 5 := ri_frf C (k := 50) (d := 5) rfl rfl (by simpa using q.2)
  rcases S with ⟨f, a⟩ | ⟨s, k⟩
  · exact ⟨hz.1, e4.trans hz.2.1, e5.trans hz.2.2⟩
  · exact ⟨hz.1, e4.trans hz.2.1, e5.trans hz.2.2⟩
theorem zSC_fr {b m : Nat} {h h' : cv_H} {s : zSg} (hb : b = 2 ∨ b = 26) (C : cw_Fr cw_Ds cw_sh m h h') (q : (!cw_bit m 5 3 && (!(cw_bit m 30 0 || cw_bit m 30 1) && (!(cw_bit m 31 0 || cw_bit m 31 1) && (([2, 3, 9, 14, 19] : List Nat).all (fun i => !cw_bit m 4 i) && (!(cw_bit m 34 0 || cw_bit m 34 1) && (!(cw_bit m 35 0 || cw_bit m 35 1) && (!(cw_bit m 39 0 || cw_bit m 39 1) && (!cw_bit m 7 14 && !cw_bit m 7 15)))))))) = true) (hs : zSC b h s) : zSC b h' s := by
  simp only [Bool.and_eq_true, Bool.not_eq_true', List.all_eq_true] at q
  obtain ⟨q1, q2, q3, q4, q5, q6, q7, q8, q9⟩ := q
  obtain ⟨c3, clt, ckn, cg, cw, cc, cto⟩ := hs
  exact ⟨(sc_3 C q1).trans c3, sc_lt hb C q2 q3 clt, sc_kn hb C (q4 2 (by decide)) (q4 3 (by decide)) ckn, sc_g hb C (q4 9 (by decide)) q5 cg, sc_w hb C (q4 14 (by decide)) q6 cw, sc_c hb C (q4 19 (by decide)) q7 cc, sc_t hb C q8 q9 cto⟩
/-- which plan the class holds after a text, and what stands in it -/
def zTp (S : (Int × Nat) ⊕ (zSg × Int)) (pl sp : Nat) (h0 h : cv_H) : Prop := match S with
  | .inl _ => (ri_at h 0 8 = ri_at h0 0 8 ∧ ri_at h 0 10 = ri_at h0 0 10 ∧ ri_at h 86 9 = ri_at h0 86 9 ∧ ri_at h 86 10 = ri_at h0 86 10 ∧ ri_at h 63 2 = ri_at h0 63 2) ∧ cw_at h 0 2 = some (cv_r pl) ∧ cw_at h 0 3 = some (cv_r sp) ∧ zPO sp h0 h
  | .inr (s, _) => (ri_at h 0 8 = 0 ∧ ri_at h 0 10 = -1 ∧ ri_at h 86 9 = 0 ∧ ri_at h 86 10 = -1 ∧ ri_at h 63 2 = 0) ∧ cw_at h 0 2 = some (cv_r sp) ∧ cw_at h 0 3 = some (cv_r pl) ∧ zSC sp h s
section TZ
variable {G : Int} {X : cv_X} {Q : cv_O → Prop} {t : Nat → Int}
set_option maxHeartbeats 8000000 in
theorem ct_takeSpare3 {h0 : cv_H} (hX : cw_Xok X) (hT : cw_T G h0) (hP : cw_PP G h0) {pl sp : Nat} (hp4 : cw_sh[pl]? = some 4) (hs4 : cw_sh[sp]? = some 4) (hp2 : cw_at h0 0 2 = some (cv_r pl)) (hp3 : cw_at h0 0 3 = some (cv_r sp)) (hQ : ∀ h', cw_T G h' → cw_PP G h' → cw_Fr cw_Ds cw_sh kk_X11_takeSpare.2.2.2.2.2.1 h0 h' → (ri_at h' 0 8 = 0 ∧ ri_at h' 0 10 = -1 ∧ ri_at h' 86 9 = 0 ∧ ri_at h' 86 10 = -1 ∧ ri_at h' 63 2 = 0) → cw_at h' 0 2 = some (cv_r sp) → cw_at h' 0 3 = some (cv_r pl) → Q (none, h')) : cw_X X 110 Q 0 (cv_ent 0 [cv_r 0]) [] h0 := by
  have Fh0 : cw_Fr cw_Ds cw_sh kk_X11_takeSpare.2.2.2.2.2.1 h0 h0 := cw_Fr_refl
  refine ex_al oq_X11_takeSpare_0 rfl ?_
  refine ex_gf oq_X11_takeSpare_1 hT (k := 0) (d := 11) rfl rfl (hp2) ?_
  refine ex_asA oq_X11_takeSpare_4 (fun L101 gL101_1 kL101 => ?_)
  have gL101_0 : cv_get L101 0 = some (cv_r 0) := kL101 0 _ (by decide) (fun _ => rfl) rfl
  refine ex_al oq_X11_takeSpare_5 gL101_0 ?_
  refine ex_al oq_X11_takeSpare_6 gL101_0 ?_
  refine ex_gf oq_X11_takeSpare_7 hT (k := 0) (d := 11) rfl rfl (hp3) ?_
  refine ex_pfr oq_X11_takeSpare_10 hT (k := 0) (d := 11) (v := sp) rfl rfl rfl (by decide) hs4 rfl (fun h102 Th102 wh102 => ?_)
  have Fh102 : cw_Fr cw_Ds cw_sh kk_X11_takeSpare.2.2.2.2.2.1 h0 h102 := cw_Fr_tr Fh0 (cw_Fr_wrf wh102 (k := 0) (d := 11) rfl rfl (by decide +kernel))
  have eh102_0_8 : ri_at h102 0 8 = ri_at h0 0 8 := ri_ne wh102 (.inr (by decide))
  have eh102_0_10 : ri_at h102 0 10 = ri_at h0 0 10 := ri_ne wh102 (.inr (by decide))
  have eh102_86_9 : ri_at h102 86 9 = ri_at h0 86 9 := ri_ne wh102 (.inl (by decide))
  have eh102_86_10 : ri_at h102 86 10 = ri_at h0 86 10 := ri_ne wh102 (.inl (by decide))
  have eh102_63_2 : ri_at h102 63 2 = ri_at h0 63 2 := ri_ne wh102 (.inl (by decide))
  refine ex_al oq_X11_takeSpare_13 gL101_0 ?_
  refine ex_al oq_X11_takeSpare_14 gL101_1 ?_
  refine ex_pfr oq_X11_takeSpare_15 Th102 (k := 0) (d := 11) (v := pl) rfl rfl rfl (by decide) hp4 rfl (fun h103 Th103 wh103 => ?_)
  have Fh103 : cw_Fr cw_Ds cw_sh kk_X11_takeSpare.2.2.2.2.2.1 h0 h103 := cw_Fr_tr Fh102 (cw_Fr_wrf wh103 (k := 0) (d := 11) rfl rfl (by decide +kernel))
  have eh103_0_8 : ri_at h103 0 8 = ri_at h0 0 8 := (ri_ne wh103 (.inr (by decide))).trans eh102_0_8
  clear eh102_0_8
  have eh103_0_10 : ri_at h103 0 10 = ri_at h0 0 10 := (ri_ne wh103 (.inr (by decide))).trans eh102_0_10
  clear eh102_0_10
  have eh103_86_9 : ri_at h103 86 9 = ri_at h0 86 9 := (ri_ne wh103 (.inl (by decide))).trans eh102_86_9
  clear eh102_86_9
  have eh103_86_10 : ri_at h103 86 10 = ri_at h0 86 10 := (ri_ne wh103 (.inl (by decide))).trans eh102_86_10
  clear eh102_86_10
  have eh103_63_2 : ri_at h103 63 2 = ri_at h0 63 2 := (ri_ne wh103 (.inl (by decide))).trans eh102_63_2
  clear eh102_63_2
  refine ex_al oq_X11_takeSpare_18 gL101_0 ?_
  refine ex_gf oq_X11_takeSpare_19 Th103 (k := 0) (d := 11) rfl rfl (ri_ref (k := 0) (k' := 55) (d := 11) (f := 5) Th103 rfl rfl rfl (by decide) (ri_uniq (by decide +kernel))) ?_
  have Ph103 : cw_PP G h103 := pp_fr0 (by decide +kernel) hP Fh103
  refine ex_cv oq_X11_takeSpare_22 (by decide) Th103 (k := 55) (d := 2) (as := []) (stk := []) rfl rfl rfl rfl rfl rfl ⟨rfl, rfl⟩ (cw_HX hz_X2_forget rfl (cw_Xok_no2 hX) ⟨Th103, Ph103⟩ ⟨.inl ⟨by decide, 55, rfl, rfl⟩, trivial⟩ (fun t ht => absurd ht List.not_mem_nil)) (fun ox105 hox105 => ?_)
  obtain ⟨h104, rfl, Th104, Ph104, Ch104⟩ := po_non hox105 rfl
  show cw_X _ _ _ _ _ [] h104
  have Fh104 : cw_Fr cw_Ds cw_sh kk_X11_takeSpare.2.2.2.2.2.1 h0 h104 := cw_Fr_tr Fh103 (cw_Fr_mono (by decide +kernel) Ch104)
  have eh104_0_8 : ri_at h104 0 8 = ri_at h0 0 8 := (ri_frf Ch104 (k := 0) (d := 11) rfl rfl (by decide +kernel)).trans eh103_0_8
  clear eh103_0_8
  have eh104_0_10 : ri_at h104 0 10 = ri_at h0 0 10 := (ri_frf Ch104 (k := 0) (d := 11) rfl rfl (by decide +kernel)).trans eh103_0_10
  clear eh103_0_10
  have eh104_86_9 : ri_at h104 86 9 = ri_at h0 86 9 := (ri_frf Ch104 (k := 86) (d := 3) rfl rfl (by decide +kernel)).trans eh103_86_9
  clear eh103_86_9
  have eh104_86_10 : ri_at h104 86 10 = ri_at h0 86 10 := (ri_frf Ch104 (k := 86) (d := 3) rfl rfl (by decide +kernel)).trans eh103_86_10
  clear eh103_86_10
  have eh104_63_2 : ri_at h104 63 2 = ri_at h0 63 2 := (ri_frf Ch104 (k := 63) (d := 10) rfl rfl (by decide +kernel)).trans eh103_63_2
  clear eh103_63_2
  refine ex_ic oq_X11_takeSpare_25 (m := 0) (by decide) (fun x106 hx106 => ?_)
  refine ex_isA oq_X11_takeSpare_26 (fun L107 gL107_2 kL107 => ?_)
  have gL107_1 : cv_get L107 1 = some (cv_r pl) := kL107 1 _ (by decide) (fun _ => rfl) gL101_1
  have gL107_0 : cv_get L107 0 = some (cv_r 0) := kL107 0 _ (by decide) (fun q => absurd q (by decide)) gL101_0
  refine ex_il oq_X11_takeSpare_27 gL107_2 ?_
  refine ex_ic oq_X11_takeSpare_28 (m := 4) (by decide) (fun x108 hx108 => ?_)
  refine ex_if oq_X11_takeSpare_29 (t := 52) rfl rfl (fun (c109 : x108.toInt ≤ x106.toInt) => ?_) (fun (c109 : ¬ (x108.toInt ≤ x106.toInt)) => ?_)
  · exfalso; omega
  · refine ex_al oq_X11_takeSpare_32 gL107_0 ?_
    refine ex_gf oq_X11_takeSpare_33 Th104 (k := 0) (d := 11) rfl rfl (ri_ref (k := 0) (k' := 61) (d := 11) (f := 7) Th104 rfl rfl rfl (by decide) (ri_uniq (by decide +kernel))) ?_
    refine ex_il oq_X11_takeSpare_36 gL107_2 ?_
    refine ex_aa oq_X11_takeSpare_37 Th104 (k := 61) (d := 14) (j := x106.toInt.toNat) rfl rfl (by omega) (by omega) (fun k110 ak110 sk110 => ?_)
    refine ex_al oq_X11_takeSpare_38 gL107_0 ?_
    obtain ⟨k111, ak111, sk111⟩ := ri_refs (k := 0) (d := 11) (f := 2) Th104 rfl rfl rfl (by decide)
    refine ex_gf oq_X11_takeSpare_39 Th104 (k := 0) (d := 11) rfl rfl ak111 ?_
    refine ex_il oq_X11_takeSpare_42 gL107_2 ?_
    have Ph104 : cw_PP G h104 := pp_fr0 (by decide +kernel) hP Fh104
    refine ex_cv oq_X11_takeSpare_43 (by decide) Th104 (k := k110) (d := 1) (as := [cv_r k111, cv_i x106]) (stk := []) sk110 rfl rfl rfl rfl rfl ⟨rfl, rfl⟩ (cw_HX hz_X1_begin rfl (cw_Xok_no2 hX) ⟨Th104, Ph104⟩ ⟨.inl ⟨by decide, k110, rfl, sk110⟩, .inl ⟨by decide, k111, rfl, sk111⟩, ⟨_, rfl, cw_top_ok _⟩, trivial⟩ (fun t ht => absurd ht List.not_mem_nil)) (fun ox113 hox113 => ?_)
    obtain ⟨h112, rfl, Th112, Ph112, Ch112⟩ := po_non hox113 rfl
    show cw_X _ _ _ _ _ [] h112
    have Fh112 : cw_Fr cw_Ds cw_sh kk_X11_takeSpare.2.2.2.2.2.1 h0 h112 := cw_Fr_tr Fh104 (cw_Fr_mono (by decide +kernel) Ch112)
    have eh112_0_8 : ri_at h112 0 8 = ri_at h0 0 8 := (ri_frf Ch112 (k := 0) (d := 11) rfl rfl (by decide +kernel)).trans eh104_0_8
    clear eh104_0_8
    have eh112_0_10 : ri_at h112 0 10 = ri_at h0 0 10 := (ri_frf Ch112 (k := 0) (d := 11) rfl rfl (by decide +kernel)).trans eh104_0_10
    clear eh104_0_10
    have eh112_86_9 : ri_at h112 86 9 = ri_at h0 86 9 := (ri_frf Ch112 (k := 86) (d := 3) rfl rfl (by decide +kernel)).trans eh104_86_9
    clear eh104_86_9
    have eh112_86_10 : ri_at h112 86 10 = ri_at h0 86 10 := (ri_frf Ch112 (k := 86) (d := 3) rfl rfl (by decide +kernel)).trans eh104_86_10
    clear eh104_86_10
    have eh112_63_2 : ri_at h112 63 2 = ri_at h0 63 2 := (ri_frf Ch112 (k := 63) (d := 10) rfl rfl (by decide +kernel)).trans eh104_63_2
    clear eh104_63_2
    refine ex_incA oq_X11_takeSpare_46 (v := x106) (m := 1) gL107_2 (by decide) (by omega) (fun L115 x114 hx114 gL115_2 kL115 => ?_)
    have gL115_1 : cv_get L115 1 = some (cv_r pl) := kL115 1 _ (by decide) (fun _ => rfl) gL107_1
    have gL115_0 : cv_get L115 0 = some (cv_r 0) := kL115 0 _ (by decide) (fun q => absurd q (by decide)) gL107_0
    refine ex_go oq_X11_takeSpare_49 (t := 27) rfl rfl ?_
    refine ex_il oq_X11_takeSpare_27 gL115_2 ?_
    refine ex_ic oq_X11_takeSpare_28 (m := 4) (by decide) (fun x116 hx116 => ?_)
    refine ex_if oq_X11_takeSpare_29 (t := 52) rfl rfl (fun (c117 : x116.toInt ≤ x114.toInt) => ?_) (fun (c117 : ¬ (x116.toInt ≤ x114.toInt)) => ?_)
    · exfalso; omega
    · refine ex_al oq_X11_takeSpare_32 gL115_0 ?_
      refine ex_gf oq_X11_takeSpare_33 Th112 (k := 0) (d := 11) rfl rfl (ri_ref (k := 0) (k' := 61) (d := 11) (f := 7) Th112 rfl rfl rfl (by decide) (ri_uniq (by decide +kernel))) ?_
      refine ex_il oq_X11_takeSpare_36 gL115_2 ?_
      refine ex_aa oq_X11_takeSpare_37 Th112 (k := 61) (d := 14) (j := x114.toInt.toNat) rfl rfl (by omega) (by omega) (fun k118 ak118 sk118 => ?_)
      refine ex_al oq_X11_takeSpare_38 gL115_0 ?_
      obtain ⟨k119, ak119, sk119⟩ := ri_refs (k := 0) (d := 11) (f := 2) Th112 rfl rfl rfl (by decide)
      refine ex_gf oq_X11_takeSpare_39 Th112 (k := 0) (d := 11) rfl rfl ak119 ?_
      refine ex_il oq_X11_takeSpare_42 gL115_2 ?_
      have Ph112 : cw_PP G h112 := pp_fr0 (by decide +kernel) hP Fh112
      refine ex_cv oq_X11_takeSpare_43 (by decide) Th112 (k := k118) (d := 1) (as := [cv_r k119, cv_i x114]) (stk := []) sk118 rfl rfl rfl rfl rfl ⟨rfl, rfl⟩ (cw_HX hz_X1_begin rfl (cw_Xok_no2 hX) ⟨Th112, Ph112⟩ ⟨.inl ⟨by decide, k118, rfl, sk118⟩, .inl ⟨by decide, k119, rfl, sk119⟩, ⟨_, rfl, cw_top_ok _⟩, trivial⟩ (fun t ht => absurd ht List.not_mem_nil)) (fun ox121 hox121 => ?_)
      obtain ⟨h120, rfl, Th120, Ph120, Ch120⟩ := po_non hox121 rfl
      show cw_X _ _ _ _ _ [] h120
      have Fh120 : cw_Fr cw_Ds cw_sh kk_X11_takeSpare.2.2.2.2.2.1 h0 h120 := cw_Fr_tr Fh112 (cw_Fr_mono (by decide +kernel) Ch120)
      have eh120_0_8 : ri_at h120 0 8 = ri_at h0 0 8 := (ri_frf Ch120 (k := 0) (d := 11) rfl rfl (by decide +kernel)).trans eh112_0_8
      clear eh112_0_8
      have eh120_0_10 : ri_at h120 0 10 = ri_at h0 0 10 := (ri_frf Ch120 (k := 0) (d := 11) rfl rfl (by decide +kernel)).trans eh112_0_10
      clear eh112_0_10
      have eh120_86_9 : ri_at h120 86 9 = ri_at h0 86 9 := (ri_frf Ch120 (k := 86) (d := 3) rfl rfl (by decide +kernel)).trans eh112_86_9
      clear eh112_86_9
      have eh120_86_10 : ri_at h120 86 10 = ri_at h0 86 10 := (ri_frf Ch120 (k := 86) (d := 3) rfl rfl (by decide +kernel)).trans eh112_86_10
      clear eh112_86_10
      have eh120_63_2 : ri_at h120 63 2 = ri_at h0 63 2 := (ri_frf Ch120 (k := 63) (d := 10) rfl rfl (by decide +kernel)).trans eh112_63_2
      clear eh112_63_2
      refine ex_incA oq_X11_takeSpare_46 (v := x114) (m := 1) gL115_2 (by decide) (by omega) (fun L123 x122 hx122 gL123_2 kL123 => ?_)
      have gL123_1 : cv_get L123 1 = some (cv_r pl) := kL123 1 _ (by decide) (fun _ => rfl) gL115_1
      have gL123_0 : cv_get L123 0 = some (cv_r 0) := kL123 0 _ (by decide) (fun q => absurd q (by decide)) gL115_0
      refine ex_go oq_X11_takeSpare_49 (t := 27) rfl rfl ?_
      refine ex_il oq_X11_takeSpare_27 gL123_2 ?_
      refine ex_ic oq_X11_takeSpare_28 (m := 4) (by decide) (fun x124 hx124 => ?_)
      refine ex_if oq_X11_takeSpare_29 (t := 52) rfl rfl (fun (c125 : x124.toInt ≤ x122.toInt) => ?_) (fun (c125 : ¬ (x124.toInt ≤ x122.toInt)) => ?_)
      · exfalso; omega
      · refine ex_al oq_X11_takeSpare_32 gL123_0 ?_
        refine ex_gf oq_X11_takeSpare_33 Th120 (k := 0) (d := 11) rfl rfl (ri_ref (k := 0) (k' := 61) (d := 11) (f := 7) Th120 rfl rfl rfl (by decide) (ri_uniq (by decide +kernel))) ?_
        refine ex_il oq_X11_takeSpare_36 gL123_2 ?_
        refine ex_aa oq_X11_takeSpare_37 Th120 (k := 61) (d := 14) (j := x122.toInt.toNat) rfl rfl (by omega) (by omega) (fun k126 ak126 sk126 => ?_)
        refine ex_al oq_X11_takeSpare_38 gL123_0 ?_
        obtain ⟨k127, ak127, sk127⟩ := ri_refs (k := 0) (d := 11) (f := 2) Th120 rfl rfl rfl (by decide)
        refine ex_gf oq_X11_takeSpare_39 Th120 (k := 0) (d := 11) rfl rfl ak127 ?_
        refine ex_il oq_X11_takeSpare_42 gL123_2 ?_
        have Ph120 : cw_PP G h120 := pp_fr0 (by decide +kernel) hP Fh120
        refine ex_cv oq_X11_takeSpare_43 (by decide) Th120 (k := k126) (d := 1) (as := [cv_r k127, cv_i x122]) (stk := []) sk126 rfl rfl rfl rfl rfl ⟨rfl, rfl⟩ (cw_HX hz_X1_begin rfl (cw_Xok_no2 hX) ⟨Th120, Ph120⟩ ⟨.inl ⟨by decide, k126, rfl, sk126⟩, .inl ⟨by decide, k127, rfl, sk127⟩, ⟨_, rfl, cw_top_ok _⟩, trivial⟩ (fun t ht => absurd ht List.not_mem_nil)) (fun ox129 hox129 => ?_)
        obtain ⟨h128, rfl, Th128, Ph128, Ch128⟩ := po_non hox129 rfl
        show cw_X _ _ _ _ _ [] h128
        have Fh128 : cw_Fr cw_Ds cw_sh kk_X11_takeSpare.2.2.2.2.2.1 h0 h128 := cw_Fr_tr Fh120 (cw_Fr_mono (by decide +kernel) Ch128)
        have eh128_0_8 : ri_at h128 0 8 = ri_at h0 0 8 := (ri_frf Ch128 (k := 0) (d := 11) rfl rfl (by decide +kernel)).trans eh120_0_8
        clear eh120_0_8
        have eh128_0_10 : ri_at h128 0 10 = ri_at h0 0 10 := (ri_frf Ch128 (k := 0) (d := 11) rfl rfl (by decide +kernel)).trans eh120_0_10
        clear eh120_0_10
        have eh128_86_9 : ri_at h128 86 9 = ri_at h0 86 9 := (ri_frf Ch128 (k := 86) (d := 3) rfl rfl (by decide +kernel)).trans eh120_86_9
        clear eh120_86_9
        have eh128_86_10 : ri_at h128 86 10 = ri_at h0 86 10 := (ri_frf Ch128 (k := 86) (d := 3) rfl rfl (by decide +kernel)).trans eh120_86_10
        clear eh120_86_10
        have eh128_63_2 : ri_at h128 63 2 = ri_at h0 63 2 := (ri_frf Ch128 (k := 63) (d := 10) rfl rfl (by decide +kernel)).trans eh120_63_2
        clear eh120_63_2
        refine ex_incA oq_X11_takeSpare_46 (v := x122) (m := 1) gL123_2 (by decide) (by omega) (fun L131 x130 hx130 gL131_2 kL131 => ?_)
        have gL131_1 : cv_get L131 1 = some (cv_r pl) := kL131 1 _ (by decide) (fun _ => rfl) gL123_1
        have gL131_0 : cv_get L131 0 = some (cv_r 0) := kL131 0 _ (by decide) (fun q => absurd q (by decide)) gL123_0
        refine ex_go oq_X11_takeSpare_49 (t := 27) rfl rfl ?_
        refine ex_il oq_X11_takeSpare_27 gL131_2 ?_
        refine ex_ic oq_X11_takeSpare_28 (m := 4) (by decide) (fun x132 hx132 => ?_)
        refine ex_if oq_X11_takeSpare_29 (t := 52) rfl rfl (fun (c133 : x132.toInt ≤ x130.toInt) => ?_) (fun (c133 : ¬ (x132.toInt ≤ x130.toInt)) => ?_)
        · exfalso; omega
        · refine ex_al oq_X11_takeSpare_32 gL131_0 ?_
          refine ex_gf oq_X11_takeSpare_33 Th128 (k := 0) (d := 11) rfl rfl (ri_ref (k := 0) (k' := 61) (d := 11) (f := 7) Th128 rfl rfl rfl (by decide) (ri_uniq (by decide +kernel))) ?_
          refine ex_il oq_X11_takeSpare_36 gL131_2 ?_
          refine ex_aa oq_X11_takeSpare_37 Th128 (k := 61) (d := 14) (j := x130.toInt.toNat) rfl rfl (by omega) (by omega) (fun k134 ak134 sk134 => ?_)
          refine ex_al oq_X11_takeSpare_38 gL131_0 ?_
          obtain ⟨k135, ak135, sk135⟩ := ri_refs (k := 0) (d := 11) (f := 2) Th128 rfl rfl rfl (by decide)
          refine ex_gf oq_X11_takeSpare_39 Th128 (k := 0) (d := 11) rfl rfl ak135 ?_
          refine ex_il oq_X11_takeSpare_42 gL131_2 ?_
          have Ph128 : cw_PP G h128 := pp_fr0 (by decide +kernel) hP Fh128
          refine ex_cv oq_X11_takeSpare_43 (by decide) Th128 (k := k134) (d := 1) (as := [cv_r k135, cv_i x130]) (stk := []) sk134 rfl rfl rfl rfl rfl ⟨rfl, rfl⟩ (cw_HX hz_X1_begin rfl (cw_Xok_no2 hX) ⟨Th128, Ph128⟩ ⟨.inl ⟨by decide, k134, rfl, sk134⟩, .inl ⟨by decide, k135, rfl, sk135⟩, ⟨_, rfl, cw_top_ok _⟩, trivial⟩ (fun t ht => absurd ht List.not_mem_nil)) (fun ox137 hox137 => ?_)
          obtain ⟨h136, rfl, Th136, Ph136, Ch136⟩ := po_non hox137 rfl
          show cw_X _ _ _ _ _ [] h136
          have Fh136 : cw_Fr cw_Ds cw_sh kk_X11_takeSpare.2.2.2.2.2.1 h0 h136 := cw_Fr_tr Fh128 (cw_Fr_mono (by decide +kernel) Ch136)
          have eh136_0_8 : ri_at h136 0 8 = ri_at h0 0 8 := (ri_frf Ch136 (k := 0) (d := 11) rfl rfl (by decide +kernel)).trans eh128_0_8
          clear eh128_0_8
          have eh136_0_10 : ri_at h136 0 10 = ri_at h0 0 10 := (ri_frf Ch136 (k := 0) (d := 11) rfl rfl (by decide +kernel)).trans eh128_0_10
          clear eh128_0_10
          have eh136_86_9 : ri_at h136 86 9 = ri_at h0 86 9 := (ri_frf Ch136 (k := 86) (d := 3) rfl rfl (by decide +kernel)).trans eh128_86_9
          clear eh128_86_9
          have eh136_86_10 : ri_at h136 86 10 = ri_at h0 86 10 := (ri_frf Ch136 (k := 86) (d := 3) rfl rfl (by decide +kernel)).trans eh128_86_10
          clear eh128_86_10
          have eh136_63_2 : ri_at h136 63 2 = ri_at h0 63 2 := (ri_frf Ch136 (k := 63) (d := 10) rfl rfl (by decide +kernel)).trans eh128_63_2
          clear eh128_63_2
          refine ex_incA oq_X11_takeSpare_46 (v := x130) (m := 1) gL131_2 (by decide) (by omega) (fun L139 x138 hx138 gL139_2 kL139 => ?_)
          have gL139_1 : cv_get L139 1 = some (cv_r pl) := kL139 1 _ (by decide) (fun _ => rfl) gL131_1
          have gL139_0 : cv_get L139 0 = some (cv_r 0) := kL139 0 _ (by decide) (fun q => absurd q (by decide)) gL131_0
          refine ex_go oq_X11_takeSpare_49 (t := 27) rfl rfl ?_
          refine ex_il oq_X11_takeSpare_27 gL139_2 ?_
          refine ex_ic oq_X11_takeSpare_28 (m := 4) (by decide) (fun x140 hx140 => ?_)
          refine ex_if oq_X11_takeSpare_29 (t := 52) rfl rfl (fun (c141 : x140.toInt ≤ x138.toInt) => ?_) (fun (c141 : ¬ (x140.toInt ≤ x138.toInt)) => ?_)
          · refine ex_al oq_X11_takeSpare_52 gL139_0 ?_
            refine ex_ic oq_X11_takeSpare_53 (m := 0) (by decide) (fun x142 hx142 => ?_)
            refine ex_pfi oq_X11_takeSpare_54 Th136 (k := 0) (d := 11) rfl rfl rfl (by omega) (by omega) (fun h143 Th143 wh143 => ?_)
            have Fh143 : cw_Fr cw_Ds cw_sh kk_X11_takeSpare.2.2.2.2.2.1 h0 h143 := cw_Fr_tr Fh136 (cw_Fr_wrf wh143 (k := 0) (d := 11) rfl rfl (by decide +kernel))
            have eh143_0_8 : ri_at h143 0 8 = x142.toInt := ri_self wh143
            have eh143_0_10 : ri_at h143 0 10 = ri_at h0 0 10 := (ri_ne wh143 (.inr (by decide))).trans eh136_0_10
            clear eh136_0_10
            have eh143_86_9 : ri_at h143 86 9 = ri_at h0 86 9 := (ri_ne wh143 (.inl (by decide))).trans eh136_86_9
            clear eh136_86_9
            have eh143_86_10 : ri_at h143 86 10 = ri_at h0 86 10 := (ri_ne wh143 (.inl (by decide))).trans eh136_86_10
            clear eh136_86_10
            have eh143_63_2 : ri_at h143 63 2 = ri_at h0 63 2 := (ri_ne wh143 (.inl (by decide))).trans eh136_63_2
            clear eh136_63_2
            refine ex_al oq_X11_takeSpare_57 gL139_0 ?_
            refine ex_ic oq_X11_takeSpare_58 (m := (-1)) (by decide) (fun x144 hx144 => ?_)
            refine ex_pfi oq_X11_takeSpare_59 Th143 (k := 0) (d := 11) rfl rfl rfl (by omega) (by omega) (fun h145 Th145 wh145 => ?_)
            have Fh145 : cw_Fr cw_Ds cw_sh kk_X11_takeSpare.2.2.2.2.2.1 h0 h145 := cw_Fr_tr Fh143 (cw_Fr_wrf wh145 (k := 0) (d := 11) rfl rfl (by decide +kernel))
            have eh145_0_8 : ri_at h145 0 8 = x142.toInt := (ri_ne wh145 (.inr (by decide))).trans eh143_0_8
            clear eh143_0_8
            have eh145_0_10 : ri_at h145 0 10 = x144.toInt := ri_self wh145
            have eh145_86_9 : ri_at h145 86 9 = ri_at h0 86 9 := (ri_ne wh145 (.inl (by decide))).trans eh143_86_9
            clear eh143_86_9
            have eh145_86_10 : ri_at h145 86 10 = ri_at h0 86 10 := (ri_ne wh145 (.inl (by decide))).trans eh143_86_10
            clear eh143_86_10
            have eh145_63_2 : ri_at h145 63 2 = ri_at h0 63 2 := (ri_ne wh145 (.inl (by decide))).trans eh143_63_2
            clear eh143_63_2
            refine ex_al oq_X11_takeSpare_62 gL139_0 ?_
            refine ex_gf oq_X11_takeSpare_63 Th145 (k := 0) (d := 11) rfl rfl (ri_ref (k := 0) (k' := 63) (d := 11) (f := 11) Th145 rfl rfl rfl (by decide) (ri_uniq (by decide +kernel))) ?_
            refine ex_cv oq_X11_takeSpare_66 (by decide) Th145 (k := 63) (d := 10) (as := []) (stk := []) rfl rfl rfl rfl rfl rfl ⟨rfl, rfl⟩ (R := fun o => ∃ hb : cv_H, o = (none, hb) ∧ cw_T G hb ∧ cw_Fr cw_Ds cw_sh kk_X10_clear.2.2.2.2.2.1 h145 hb ∧ ri_at hb 63 2 = 0) (ct_clear10 Th145 (fun hb b1 b2 c0 => ⟨hb, rfl, b1, b2, c0⟩)) (fun o ho => ?_)
            obtain ⟨h146, rfl, Th146, Ch146, mh146_0⟩ := ho
            show cw_X _ _ _ _ _ [] h146
            have Fh146 : cw_Fr cw_Ds cw_sh kk_X11_takeSpare.2.2.2.2.2.1 h0 h146 := cw_Fr_tr Fh145 (cw_Fr_mono (by decide +kernel) Ch146)
            have eh146_0_8 : ri_at h146 0 8 = x142.toInt := (ri_frf Ch146 (k := 0) (d := 11) rfl rfl (by decide +kernel)).trans eh145_0_8
            clear eh145_0_8
            have eh146_0_10 : ri_at h146 0 10 = x144.toInt := (ri_frf Ch146 (k := 0) (d := 11) rfl rfl (by decide +kernel)).trans eh145_0_10
            clear eh145_0_10
            have eh146_86_9 : ri_at h146 86 9 = ri_at h0 86 9 := (ri_frf Ch146 (k := 86) (d := 3) rfl rfl (by decide +kernel)).trans eh145_86_9
            clear eh145_86_9
            have eh146_86_10 : ri_at h146 86 10 = ri_at h0 86 10 := (ri_frf Ch146 (k := 86) (d := 3) rfl rfl (by decide +kernel)).trans eh145_86_10
            clear eh145_86_10
            refine ex_al oq_X11_takeSpare_69 gL139_0 ?_
            refine ex_gf oq_X11_takeSpare_70 Th146 (k := 0) (d := 11) rfl rfl (ri_ref (k := 0) (k' := 86) (d := 11) (f := 12) Th146 rfl rfl rfl (by decide) (ri_uniq (by decide +kernel))) ?_
            refine ex_cv oq_X11_takeSpare_73 (by decide) Th146 (k := 86) (d := 3) (as := []) (stk := []) rfl rfl rfl rfl rfl rfl ⟨rfl, rfl⟩ (R := fun o => ∃ hb : cv_H, o = (none, hb) ∧ cw_T G hb ∧ cw_Fr cw_Ds cw_sh kk_X3_clear.2.2.2.2.2.1 h146 hb ∧ ri_at hb 86 9 = 0 ∧ ri_at hb 86 10 = -1) (ct_clear3 Th146 (fun hb b1 b2 c0 c1 => ⟨hb, rfl, b1, b2, c0, c1⟩)) (fun o ho => ?_)
            obtain ⟨h147, rfl, Th147, Ch147, mh147_0, mh147_1⟩ := ho
            show cw_X _ _ _ _ _ [] h147
            have Fh147 : cw_Fr cw_Ds cw_sh kk_X11_takeSpare.2.2.2.2.2.1 h0 h147 := cw_Fr_tr Fh146 (cw_Fr_mono (by decide +kernel) Ch147)
            have eh147_0_8 : ri_at h147 0 8 = x142.toInt := (ri_frf Ch147 (k := 0) (d := 11) rfl rfl (by decide +kernel)).trans eh146_0_8
            clear eh146_0_8
            have eh147_0_10 : ri_at h147 0 10 = x144.toInt := (ri_frf Ch147 (k := 0) (d := 11) rfl rfl (by decide +kernel)).trans eh146_0_10
            clear eh146_0_10
            have eh147_63_2 : ri_at h147 63 2 = (0 : Int) := (ri_frf Ch147 (k := 63) (d := 10) rfl rfl (by decide +kernel)).trans mh146_0
            exact ex_retv oq_X11_takeSpare_76 rfl (hQ h147 Th147 (pp_fr0 (by decide +kernel) hP Fh147) Fh147 ⟨by omega, by omega, by omega, by omega, by omega⟩ (((Ch147.2 0 11 2 rfl (by decide +kernel)).trans ((Ch146.2 0 11 2 rfl (by decide +kernel)).trans ((wh145.2.1 0 2 (.inr (by decide))).trans ((wh143.2.1 0 2 (.inr (by decide))).trans ((Ch136.2 0 11 2 rfl (by decide +kernel)).trans ((Ch128.2 0 11 2 rfl (by decide +kernel)).trans ((Ch120.2 0 11 2 rfl (by decide +kernel)).trans ((Ch112.2 0 11 2 rfl (by decide +kernel)).trans ((Ch104.2 0 11 2 rfl (by decide +kernel)).trans (wh103.2.1 0 2 (.inr (by decide)))))))))))).trans wh102.1) (((Ch147.2 0 11 3 rfl (by decide +kernel)).trans ((Ch146.2 0 11 3 rfl (by decide +kernel)).trans ((wh145.2.1 0 3 (.inr (by decide))).trans ((wh143.2.1 0 3 (.inr (by decide))).trans ((Ch136.2 0 11 3 rfl (by decide +kernel)).trans ((Ch128.2 0 11 3 rfl (by decide +kernel)).trans ((Ch120.2 0 11 3 rfl (by decide +kernel)).trans ((Ch112.2 0 11 3 rfl (by decide +kernel)).trans (Ch104.2 0 11 3 rfl (by decide +kernel)))))))))).trans wh103.1))
          · exfalso; omega
set_option maxHeartbeats 8000000 in
theorem ct_text3 {h0 : cv_H} (hX : cw_Xok X) (hT : cw_T G h0) (hP : cw_PP G h0) (n : Int32) (ht : ∀ i, t i = ri_at h0 1 i % 256) (hwd : ∀ i, i < 34 → ri_at h0 52 i = tz_wc.getD i 0) (hpm2 : zPM 2 h0) (hpm26 : zPM 26 h0) {pl sp : Nat} (hp4 : cw_sh[pl]? = some 4) (hs4 : cw_sh[sp]? = some 4) (hp2 : cw_at h0 0 2 = some (cv_r pl)) (hp3 : cw_at h0 0 3 = some (cv_r sp)) (hQ : ∀ (x : Int32) h', cw_T G h' → cw_PP G h' → cw_Fr cw_Ds cw_sh kk_X11_text.2.2.2.2.2.1 h0 h' → ((n.toInt < 0 ∨ ri_at h0 0 1 < n.toInt) ∧ x.toInt = -2 ∧ h' = h0 ∨ (0 ≤ n.toInt ∧ n.toInt ≤ ri_at h0 0 1) ∧ x.toInt = x.toInt ∧ ri_at h' 0 1 = 0 ∧ zTc (ztx t n.toInt.toNat 901 0 (0, (fun _ => 0), 0, [], [], []) 0) x h' ∧ zTp (ztx t n.toInt.toNat 901 0 (0, (fun _ => 0), 0, [], [], []) 0) pl sp h0 h') → Q (some (cv_i x), h')) : cw_X X 109 Q 0 (cv_ent 0 [cv_r 0, cv_i n]) [] h0 := by
  have Fh0 : cw_Fr cw_Ds cw_sh kk_X11_text.2.2.2.2.2.1 h0 h0 := cw_Fr_refl
  have hPO : zPO sp h0 h0 := zPO_0
  refine ex_il oq_X11_text_0 rfl ?_
  refine ex_if0 oq_X11_text_1 (t := 12) rfl rfl (fun (c101 : n.toInt < 0) => ?_) (fun (c101 : ¬ (n.toInt < 0)) => ?_)
  · refine ex_bi oq_X11_text_12 (m := (-2)) (by decide) (fun x102 hx102 => ?_)
    exact ex_reti oq_X11_text_14 rfl (hQ x102 h0 hT (pp_fr0 (by decide +kernel) hP Fh0) Fh0 (.inl ⟨by omega, by omega, rfl⟩))
  · refine ex_il oq_X11_text_4 rfl ?_
    refine ex_al oq_X11_text_5 rfl ?_
    obtain ⟨x103, ax103, rx103, lx103, ux103⟩ := ri_fld (k := 0) (d := 11) (f := 1) hT rfl rfl rfl
    try dsimp only at lx103 ux103
    refine ex_gf oq_X11_text_6 hT (k := 0) (d := 11) rfl rfl ax103 ?_
    refine ex_if oq_X11_text_9 (t := 15) rfl rfl (fun (c104 : n.toInt ≤ x103.toInt) => ?_) (fun (c104 : ¬ (n.toInt ≤ x103.toInt)) => ?_)
    · refine ex_al oq_X11_text_15 rfl ?_
      refine ex_ic oq_X11_text_16 (m := 0) (by decide) (fun x105 hx105 => ?_)
      refine ex_pfi oq_X11_text_17 hT (k := 0) (d := 11) rfl rfl rfl (by omega) (by omega) (fun h106 Th106 wh106 => ?_)
      have Fh106 : cw_Fr cw_Ds cw_sh kk_X11_text.2.2.2.2.2.1 h0 h106 := cw_Fr_tr Fh0 (cw_Fr_wrf wh106 (k := 0) (d := 11) rfl rfl (by decide +kernel))
      have eh106_0_1 : ri_at h106 0 1 = x105.toInt := ri_self wh106
      have eh106_0_8 : ri_at h106 0 8 = ri_at h0 0 8 := ri_ne wh106 (.inr (by decide))
      have eh106_0_10 : ri_at h106 0 10 = ri_at h0 0 10 := ri_ne wh106 (.inr (by decide))
      have eh106_86_9 : ri_at h106 86 9 = ri_at h0 86 9 := ri_ne wh106 (.inl (by decide))
      have eh106_86_10 : ri_at h106 86 10 = ri_at h0 86 10 := ri_ne wh106 (.inl (by decide))
      have eh106_63_2 : ri_at h106 63 2 = ri_at h0 63 2 := ri_ne wh106 (.inl (by decide))
      have Uh106 := zPO_wr (k := 0) (d := 11) wh106 rfl (fun e => absurd e (by decide)) (fun e => absurd e (by decide)) (fun e => absurd e (by decide)) (fun e => absurd e (by decide)) hPO
      refine ex_al oq_X11_text_20 rfl ?_
      refine ex_gf oq_X11_text_21 Th106 (k := 0) (d := 11) rfl rfl (ri_ref (k := 0) (k' := 50) (d := 11) (f := 4) Th106 rfl rfl rfl (by decide) (ri_uniq (by decide +kernel))) ?_
      refine ex_al oq_X11_text_24 rfl ?_
      refine ex_gf oq_X11_text_25 Th106 (k := 0) (d := 11) rfl rfl (((wh106.2.1 0 3 (.inr (by decide))).trans hp3)) ?_
      refine ex_il oq_X11_text_28 rfl ?_
      have hA : ∀ i, ri_at h106 1 i = ri_at h0 1 i := fun i => (ri_ne wh106 (.inl (by decide)))
      have hB : ∀ i, ri_at h106 52 i = ri_at h0 52 i := fun i => (ri_ne wh106 (.inl (by decide)))
      have hpm : zPM sp h106 := zPM_fr (sh_4 hs4) Fh106 (by decide +kernel) (by rcases sh_4 hs4 with e | e <;> subst e; exact hpm2; exact hpm26)
      refine ex_cv oq_X11_text_29 (by decide) Th106 (k := 50) (d := 5) (as := [cv_r sp, cv_i n]) (stk := []) rfl rfl rfl rfl rfl rfl ⟨rfl, rfl⟩ (R := fun o => ∃ (x : Int32) (hb : cv_H), o = (some (cv_i x), hb) ∧ cw_T G hb ∧ cw_Fr cw_Ds cw_sh kk_X5_readText.2.2.2.2.2.1 h106 hb ∧ zTc (ztx t n.toInt.toNat 901 0 (0, (fun _ => 0), 0, [], [], []) 0) x hb ∧ zPO sp h106 hb ∧ zTd (ztx t n.toInt.toNat 901 0 (0, (fun _ => 0), 0, [], [], []) 0) sp hb) (ct_readText (t := t) (n := n.toInt.toNat) (fun i => by rw [ht, ← hA]) (fun i hi => by rw [hB]; exact hwd i hi) (by omega) Th106 (sh_4 hs4) hpm (N := n) (by omega) (fun x hb b1 b2 b3 b4 b5 => ⟨x, hb, rfl, b1, b2, b3, b4, b5⟩)) (fun o ho => ?_)
      obtain ⟨x107, h108, rfl, Th108, Ch108, ex107, oh108, zh108⟩ := ho
      show cw_X _ _ _ _ _ [cv_i x107] h108
      have Fh108 : cw_Fr cw_Ds cw_sh kk_X11_text.2.2.2.2.2.1 h0 h108 := cw_Fr_tr Fh106 (cw_Fr_mono (by decide +kernel) Ch108)
      have eh108_0_1 : ri_at h108 0 1 = x105.toInt := (ri_frf Ch108 (k := 0) (d := 11) rfl rfl (by decide +kernel)).trans eh106_0_1
      clear eh106_0_1
      have eh108_0_8 : ri_at h108 0 8 = ri_at h0 0 8 := (ri_frf Ch108 (k := 0) (d := 11) rfl rfl (by decide +kernel)).trans eh106_0_8
      clear eh106_0_8
      have eh108_0_10 : ri_at h108 0 10 = ri_at h0 0 10 := (ri_frf Ch108 (k := 0) (d := 11) rfl rfl (by decide +kernel)).trans eh106_0_10
      clear eh106_0_10
      have eh108_86_9 : ri_at h108 86 9 = ri_at h0 86 9 := (ri_frf Ch108 (k := 86) (d := 3) rfl rfl (by decide +kernel)).trans eh106_86_9
      clear eh106_86_9
      have eh108_86_10 : ri_at h108 86 10 = ri_at h0 86 10 := (ri_frf Ch108 (k := 86) (d := 3) rfl rfl (by decide +kernel)).trans eh106_86_10
      clear eh106_86_10
      have eh108_63_2 : ri_at h108 63 2 = ri_at h0 63 2 := (ri_frf Ch108 (k := 63) (d := 10) rfl rfl (by decide +kernel)).trans eh106_63_2
      clear eh106_63_2
      have Uh108 := zPO_tr Uh106 oh108
      refine ex_isA oq_X11_text_32 (fun L109 gL109_2 kL109 => ?_)
      have gL109_0 : cv_get L109 0 = some (cv_r 0) := kL109 0 _ (by decide) (fun q => absurd q (by decide)) rfl
      have gL109_1 : cv_get L109 1 = some (cv_i n) := kL109 1 _ (by decide) (fun _ => rfl) rfl
      refine ex_il oq_X11_text_33 gL109_2 ?_
      refine ex_ic oq_X11_text_34 (m := (-1)) (by decide) (fun x110 hx110 => ?_)
      refine ex_if oq_X11_text_35 (t := 42) rfl rfl (fun (c111 : x107.toInt = x110.toInt) => ?_) (fun (c111 : ¬ (x107.toInt = x110.toInt)) => ?_)
      · refine ex_il oq_X11_text_42 gL109_2 ?_
        have hx2 := ex107
        have hzd := zh108
        have hv : zTp (ztx t n.toInt.toNat 901 0 (0, (fun _ => 0), 0, [], [], []) 0) pl sp h0 h108 := by
          unfold zTp
          cases eS : ztx t n.toInt.toNat 901 0 (0, (fun _ => 0), 0, [], [], []) 0 with
          | inl q => exact ⟨⟨by omega, by omega, by omega, by omega, by omega⟩, ((Ch108.2 0 11 2 rfl (by decide +kernel)).trans (wh106.2.1 0 2 (.inr (by decide)))).trans hp2, ((Ch108.2 0 11 3 rfl (by decide +kernel)).trans (wh106.2.1 0 3 (.inr (by decide)))).trans hp3, Uh108⟩
          | inr q =>
            obtain ⟨s1, k1⟩ := q
            rw [eS] at hx2
            have := ztx_k _ _ _ _ _ _ eS
            have := hx2.1
            exfalso; omega
        exact ex_reti oq_X11_text_43 rfl (hQ x107 h108 Th108 (pp_fr0 (by decide +kernel) hP Fh108) Fh108 (.inr ⟨by omega, by omega, by omega, ex107, hv⟩))
      · refine ex_al oq_X11_text_38 gL109_0 ?_
        have Ph108 : cw_PP G h108 := pp_fr0 (by decide +kernel) hP Fh108
        refine ex_cv oq_X11_text_39 (by decide) Th108 (k := 0) (d := 11) (as := []) (stk := []) rfl rfl rfl rfl rfl rfl ⟨rfl, rfl⟩ (R := fun o => ∃ hb : cv_H, o = (none, hb) ∧ cw_T G hb ∧ cw_Fr cw_Ds cw_sh kk_X11_takeSpare.2.2.2.2.2.1 h108 hb ∧ (ri_at hb 0 8 = 0 ∧ ri_at hb 0 10 = -1 ∧ ri_at hb 86 9 = 0 ∧ ri_at hb 86 10 = -1 ∧ ri_at hb 63 2 = 0) ∧ cw_at hb 0 2 = some (cv_r sp) ∧ cw_at hb 0 3 = some (cv_r pl)) (ct_takeSpare3 (cw_Xok_no2 hX) Th108 Ph108 hp4 hs4 (((Ch108.2 0 11 2 rfl (by decide +kernel)).trans (wh106.2.1 0 2 (.inr (by decide)))).trans hp2) (((Ch108.2 0 11 3 rfl (by decide +kernel)).trans (wh106.2.1 0 3 (.inr (by decide)))).trans hp3) (fun hb b1 b2 b3 b4 b5 b6 => ⟨hb, rfl, b1, b3, b4, b5, b6⟩)) (fun o ho => ?_)
        obtain ⟨h112, rfl, Th112, Ch112, zh112, ih112, jh112⟩ := ho
        show cw_X _ _ _ _ _ [] h112
        have Fh112 : cw_Fr cw_Ds cw_sh kk_X11_text.2.2.2.2.2.1 h0 h112 := cw_Fr_tr Fh108 (cw_Fr_mono (by decide +kernel) Ch112)
        have eh112_0_1 : ri_at h112 0 1 = x105.toInt := (ri_frf Ch112 (k := 0) (d := 11) rfl rfl (by decide +kernel)).trans eh108_0_1
        clear eh108_0_1
        have ex107b := zTc_fr Ch112 (by decide +kernel) ex107
        refine ex_il oq_X11_text_42 gL109_2 ?_
        have hx2 := ex107b
        have hzd := zh108
        have hv : zTp (ztx t n.toInt.toNat 901 0 (0, (fun _ => 0), 0, [], [], []) 0) pl sp h0 h112 := by
          unfold zTp
          cases eS : ztx t n.toInt.toNat 901 0 (0, (fun _ => 0), 0, [], [], []) 0 with
          | inl q => rw [eS] at hx2; exact absurd hx2.1 (by omega)
          | inr q =>
            obtain ⟨s1, k1⟩ := q
            rw [eS] at hzd
            exact ⟨zh112, ih112, jh112, zSC_fr (sh_4 hs4) Ch112 (by decide +kernel) hzd⟩
        exact ex_reti oq_X11_text_43 rfl (hQ x107 h112 Th112 (pp_fr0 (by decide +kernel) hP Fh112) Fh112 (.inr ⟨by omega, by omega, by omega, ex107b, hv⟩))
    · refine ex_bi oq_X11_text_12 (m := (-2)) (by decide) (fun x113 hx113 => ?_)
      exact ex_reti oq_X11_text_14 rfl (hQ x113 h0 hT (pp_fr0 (by decide +kernel) hP Fh0) Fh0 (.inl ⟨by omega, by omega, rfl⟩))
end TZ
