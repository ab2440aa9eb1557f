/-! ===== reading: rows' second halves ===== -/
section SPR
variable {G c kd s : Int} {h h' : cv_H}
theorem pp_wr2 {k j : Nat} {v : cv_V} (hP : cw_PP G h) (w : cw_Wr h h' k j v) (hk : k = 124 ∧ 18 ≤ j ∨ k = 119 ∧ 64 ≤ j ∨ (k = 117 ∨ k = 116) ∧ 4 ≤ j) : cw_PP G h' := by
  have e : ∀ k' i', (k' ≠ k ∨ i' ≠ j) → ri_at h' k' i' = ri_at h k' i' := fun k' i' q => ri_ne w q
  obtain ⟨p1, p2, p3, p4, p5, p6, p7⟩ := hP
  refine ⟨fun i hi => ?_, ?_, fun i hi => ?_, fun l hl => ?_, fun g hg hG => ?_, fun i hi => ?_, fun a ha => ?_⟩
  · rw [e 113 i (by omega)]; exact p1 i hi
  · rw [e 111 7 (by omega), e 111 6 (by omega), e 111 8 (by omega), e 111 9 (by omega)]; exact p2
  · rw [e 125 i (by omega), e 126 i (by omega), e 127 i (by omega)]; exact p3 i hi
  · rw [e 117 l (by omega), e 116 l (by omega)]; exact p4 l hl
  · rw [e 119 (16 * g + 1) (by omega), e 119 (16 * g + 4) (by omega), e 119 (16 * g + 3) (by omega)]; exact p5 g hg hG
  · rw [e 136 i (by omega), e 137 i (by omega)]; exact p6 i hi
  · rw [e 111 14 (by omega), e 124 (3 * a) (by omega)]; exact p7 a ha
theorem pq_wr2 {k j : Nat} {v : cv_V} (hP : cw_PQ G c kd s h) (w : cw_Wr h h' k j v) (hk : k = 124 ∧ 18 ≤ j ∨ k = 119 ∧ 64 ≤ j ∨ (k = 117 ∨ k = 116) ∧ 4 ≤ j) : cw_PQ G c kd s h' := by
  refine ⟨pp_wr2 hP.1 w hk, ?_⟩
  rw [ri_ne w (k' := 111) (i' := 6) (by omega), ri_ne w (k' := 111) (i' := 7) (by omega), ri_ne w (k' := 111) (i' := 8) (by omega)]
  exact hP.2
/-- a field that is not kept -/
theorem pq_wf {f : Nat} {v : cv_V} (hP : cw_PQ G c kd s h) (w : cw_Wr h h' 111 f v) (hf : f ≠ 6 ∧ f ≠ 7 ∧ f ≠ 8 ∧ f ≠ 9 ∧ f ≠ 14) : cw_PQ G c kd s h' := by
  have e : ∀ k' i', (k' ≠ 111 ∨ i' ≠ f) → ri_at h' k' i' = ri_at h k' i' := fun k' i' q => ri_ne w q
  obtain ⟨⟨p1, p2, p3, p4, p5, p6, p7⟩, q⟩ := hP
  refine ⟨⟨fun i hi => ?_, ?_, fun i hi => ?_, fun l hl => ?_, fun g hg hG => ?_, fun i hi => ?_, fun a ha => ?_⟩, ?_⟩
  · rw [e 113 i (by omega)]; exact p1 i hi
  · rw [e 111 7 (by omega), e 111 6 (by omega), e 111 8 (by omega), e 111 9 (by omega)]; exact p2
  · rw [e 125 i (by omega), e 126 i (by omega), e 127 i (by omega)]; exact p3 i hi
  · rw [e 117 l (by omega), e 116 l (by omega)]; exact p4 l hl
  · rw [e 119 (16 * g + 1) (by omega), e 119 (16 * g + 4) (by omega), e 119 (16 * g + 3) (by omega)]; exact p5 g hg hG
  · rw [e 136 i (by omega), e 137 i (by omega)]; exact p6 i hi
  · rw [e 111 14 (by omega), e 124 (3 * a) (by omega)]; exact p7 a ha
  · rw [e 111 7 (by omega), e 111 6 (by omega), e 111 8 (by omega)]; exact q
end SPR
section SPS
variable {G c kd s : Int} {X : cv_X} {Q : cv_O → Prop}
theorem oq_X12_wrong_0 : cw_ho 159 0 (.aload_n 0) 1 0 0 0 := rfl
theorem oq_X12_wrong_1 : cw_ho 159 1 (.iload_n 1) 1 0 0 0 := rfl
theorem oq_X12_wrong_2 : cw_ho 159 2 (.putfield 142) 3 12 4 0 := rfl
theorem oq_X12_wrong_5 : cw_ho 159 5 (.aload_n 0) 1 0 0 0 := rfl
theorem oq_X12_wrong_6 : cw_ho 159 6 (.aload_n 0) 1 0 0 0 := rfl
theorem oq_X12_wrong_7 : cw_ho 159 7 (.getfield 145) 3 12 10 0 := rfl
theorem oq_X12_wrong_10 : cw_ho 159 10 (.putfield 16) 3 12 5 0 := rfl
theorem oq_X12_wrong_13 : cw_ho 159 13 (.iconst 0) 1 0 0 0 := rfl
theorem oq_X12_wrong_14 : cw_ho 159 14 (.ireturn) 1 0 0 0 := rfl
theorem sp_wrong {h : cv_H} (hT : cw_T G h) (Ph : cw_PQ G c kd s h) (n : Int32) (hQ : ∀ (x : Int32) h', cw_T G h' → cw_PQ G c kd s h' → cw_Fr cw_Ds cw_sh kk_X12_wrong.2.2.2.2.2.1 h h' → x.toInt = 0 → Q (some (cv_i x), h')) : cw_X X 159 Q 0 (cv_ent 0 [cv_r 111, cv_i n]) [] h := by
  have Fh : cw_Fr cw_Ds cw_sh kk_X12_wrong.2.2.2.2.2.1 h h := cw_Fr_refl
  refine ex_al oq_X12_wrong_0 rfl ?_
  refine ex_il oq_X12_wrong_1 rfl ?_
  refine ex_pfi oq_X12_wrong_2 hT (k := 111) (d := 12) rfl rfl rfl (cw_i32 _).1 (cw_i32 _).2 (fun h1 Th1 wh1 => ?_)
  have Fh1 : cw_Fr cw_Ds cw_sh kk_X12_wrong.2.2.2.2.2.1 h h1 := cw_Fr_tr Fh (cw_Fr_wrf wh1 (k := 111) (d := 12) rfl rfl (by decide +kernel))
  refine ex_al oq_X12_wrong_5 rfl ?_
  refine ex_al oq_X12_wrong_6 rfl ?_
  obtain ⟨x2, ax2, rx2, lx2, ux2⟩ := fi_at Th1
  refine ex_gf oq_X12_wrong_7 Th1 (k := 111) (d := 12) rfl rfl ax2 ?_
  refine ex_pfi oq_X12_wrong_10 Th1 (k := 111) (d := 12) rfl rfl rfl (cw_i32 _).1 (cw_i32 _).2 (fun h3 Th3 wh3 => ?_)
  have Fh3 : cw_Fr cw_Ds cw_sh kk_X12_wrong.2.2.2.2.2.1 h h3 := cw_Fr_tr Fh1 (cw_Fr_wrf wh3 (k := 111) (d := 12) rfl rfl (by decide +kernel))
  refine ex_ic oq_X12_wrong_13 (m := 0) (by decide) (fun x4 hx4 => ?_)
  have Ph1 : cw_PQ G c kd s h1 := pq_wf Ph wh1 (by decide)
  have Ph3 : cw_PQ G c kd s h3 := pq_wf Ph1 wh3 (by decide)
  exact ex_retb oq_X12_wrong_14 rfl (by omega) (by omega) (hQ x4 h3 Th3 Ph3 Fh3 (by omega))
theorem oq_X12_number_0 : cw_ho 168 0 (.aload_n 0) 1 0 0 0 := rfl
theorem oq_X12_number_1 : cw_ho 168 1 (.getfield 154) 3 12 8 0 := rfl
theorem oq_X12_number_4 : cw_ho 168 4 (.iconst 3) 1 0 0 0 := rfl
theorem oq_X12_number_5 : cw_ho 168 5 (.if_icmp .eq 9) 3 0 0 0 := rfl
theorem oq_X12_number_8 : cw_ho 168 8 (.aload_n 0) 1 0 0 0 := rfl
theorem oq_X12_number_9 : cw_ho 168 9 (.iconst 1) 1 0 0 0 := rfl
theorem oq_X12_number_10 : cw_ho 168 10 (.invokevirtual 177) 3 159 1 12 := rfl
theorem oq_X12_number_13 : cw_ho 168 13 (.ireturn) 1 0 0 0 := rfl
theorem oq_X12_number_14 : cw_ho 168 14 (.aload_n 0) 1 0 0 0 := rfl
theorem oq_X12_number_15 : cw_ho 168 15 (.getfield 165) 3 12 9 0 := rfl
theorem oq_X12_number_18 : cw_ho 168 18 (.iload_n 1) 1 0 0 0 := rfl
theorem oq_X12_number_19 : cw_ho 168 19 (.iload_n 2) 1 0 0 0 := rfl
theorem oq_X12_number_20 : cw_ho 168 20 (.invokestatic 180) 3 156 3 0 := rfl
theorem oq_X12_number_23 : cw_ho 168 23 (.ifCond .ne 9) 3 0 0 0 := rfl
theorem oq_X12_number_26 : cw_ho 168 26 (.aload_n 0) 1 0 0 0 := rfl
theorem oq_X12_number_27 : cw_ho 168 27 (.iconst 2) 1 0 0 0 := rfl
theorem oq_X12_number_28 : cw_ho 168 28 (.invokevirtual 177) 3 159 1 12 := rfl
theorem oq_X12_number_31 : cw_ho 168 31 (.ireturn) 1 0 0 0 := rfl
theorem oq_X12_number_32 : cw_ho 168 32 (.aload_n 0) 1 0 0 0 := rfl
theorem oq_X12_number_33 : cw_ho 168 33 (.aload_n 0) 1 0 0 0 := rfl
theorem oq_X12_number_34 : cw_ho 168 34 (.getfield 165) 3 12 9 0 := rfl
theorem oq_X12_number_37 : cw_ho 168 37 (.putfield 184) 3 12 11 0 := rfl
theorem oq_X12_number_40 : cw_ho 168 40 (.aload_n 0) 1 0 0 0 := rfl
theorem oq_X12_number_41 : cw_ho 168 41 (.invokevirtual 187) 3 163 0 12 := rfl
theorem oq_X12_number_44 : cw_ho 168 44 (.iconst 1) 1 0 0 0 := rfl
theorem oq_X12_number_45 : cw_ho 168 45 (.ireturn) 1 0 0 0 := rfl
theorem sp_number {h : cv_H} (hX : cw_Xok X) (hT : cw_T G h) (Ph : cw_PQ G c kd s h) (lo hi : Int32) (hQ : ∀ (x : Int32) h', cw_T G h' → cw_PQ G c kd s h' → cw_Fr cw_Ds cw_sh kk_X12_number.2.2.2.2.2.1 h h' → 0 ≤ x.toInt → x.toInt ≤ 1 → (x.toInt = 0 ∨ lo.toInt ≤ ri_at h' 111 11 ∧ ri_at h' 111 11 ≤ hi.toInt) → Q (some (cv_i x), h')) : cw_X X 168 Q 0 (cv_ent 0 [cv_r 111, cv_i lo, cv_i hi]) [] h := by
  have Fh : cw_Fr cw_Ds cw_sh kk_X12_number.2.2.2.2.2.1 h h := cw_Fr_refl
  refine ex_al oq_X12_number_0 rfl ?_
  obtain ⟨x1, ax1, rx1, lx1, ux1⟩ := fi_kind hT
  refine ex_gf oq_X12_number_1 hT (k := 111) (d := 12) rfl rfl ax1 ?_
  refine ex_ic oq_X12_number_4 (m := 3) (by decide) (fun x2 hx2 => ?_)
  refine ex_if oq_X12_number_5 (t := 14) rfl rfl (fun (c3 : x1.toInt = x2.toInt) => ?_) (fun (c3 : ¬ (x1.toInt = x2.toInt)) => ?_)
  · refine ex_al oq_X12_number_14 rfl ?_
    obtain ⟨x4, ax4, rx4, lx4, ux4⟩ := fi_which hT
    refine ex_gf oq_X12_number_15 hT (k := 111) (d := 12) rfl rfl ax4 ?_
    refine ex_il oq_X12_number_18 rfl ?_
    refine ex_il oq_X12_number_19 rfl ?_
    refine ex_cs oq_X12_number_20 (by decide) (as := [cv_i x4, cv_i lo, cv_i hi]) (stk := []) rfl rfl rfl ⟨rfl, rfl⟩ (R := fun o => ∃ x : Int32, o = (some (cv_i x), h) ∧ (x.toInt = 1 ∧ lo.toInt ≤ x4.toInt ∧ x4.toInt ≤ hi.toInt ∨ x.toInt = 0 ∧ ¬ (lo.toInt ≤ x4.toInt ∧ x4.toInt ≤ hi.toInt))) (sp_isIn hT x4 lo hi  (fun x hx => ⟨x, rfl, hx⟩)) (fun ox5 hox5 => ?_)
    obtain ⟨x5, rfl, hx5⟩ := hox5
    show cw_X _ _ _ _ _ [cv_i x5] h
    refine ex_if0 oq_X12_number_23 (t := 32) rfl rfl (fun (c6 : ¬ x5.toInt = 0) => ?_) (fun (c6 : ¬ (¬ x5.toInt = 0)) => ?_)
    · refine ex_al oq_X12_number_32 rfl ?_
      refine ex_al oq_X12_number_33 rfl ?_
      obtain ⟨x7, ax7, rx7, lx7, ux7⟩ := fi_which hT
      refine ex_gf oq_X12_number_34 hT (k := 111) (d := 12) rfl rfl ax7 ?_
      refine ex_pfi oq_X12_number_37 hT (k := 111) (d := 12) rfl rfl rfl (cw_i32 _).1 (cw_i32 _).2 (fun h8 Th8 wh8 => ?_)
      have Fh8 : cw_Fr cw_Ds cw_sh kk_X12_number.2.2.2.2.2.1 h h8 := cw_Fr_tr Fh (cw_Fr_wrf wh8 (k := 111) (d := 12) rfl rfl (by decide +kernel))
      have eh8_11 : ri_at h8 111 11 = x7.toInt := ri_self wh8
      have eh8_9 : ri_at h8 111 9 = ri_at h 111 9 := ri_ne wh8 (by decide)
      refine ex_al oq_X12_number_40 rfl ?_
      have Ph8 : cw_PQ G c kd s h8 := pq_wf Ph wh8 (by decide)
      refine ex_cv oq_X12_number_41 (by decide) Th8 (k := 111) (d := 12) (as := []) (stk := []) rfl rfl rfl rfl rfl rfl ⟨rfl, rfl⟩ (cw_HX hq_X12_token rfl (cw_Xok_no2 hX) ⟨Th8, Ph8⟩ ⟨.inl ⟨by decide, 111, rfl, rfl⟩, trivial⟩ (fun t ht => absurd ht List.not_mem_nil)) (fun ox10 hox10 => ?_)
      obtain ⟨h9, rfl, Th9, Ph9, Ch9⟩ := po_non hox10 rfl
      show cw_X _ _ _ _ _ [] h9
      have Fh9 : cw_Fr cw_Ds cw_sh kk_X12_number.2.2.2.2.2.1 h h9 := cw_Fr_tr Fh8 (cw_Fr_mono (by decide +kernel) Ch9)
      have eh9_11 : ri_at h9 111 11 = ri_at h8 111 11 := ri_frf Ch9 (d := 12) rfl rfl (by decide +kernel)
      refine ex_ic oq_X12_number_44 (m := 1) (by decide) (fun x11 hx11 => ?_)
      exact ex_retb oq_X12_number_45 rfl (by omega) (by omega) (hQ x11 h9 Th9 Ph9 Fh9 (by omega) (by omega) (by omega))
    · refine ex_al oq_X12_number_26 rfl ?_
      refine ex_ic oq_X12_number_27 (m := 2) (by decide) (fun x12 hx12 => ?_)
      refine ex_cv oq_X12_number_28 (by decide) hT (k := 111) (d := 12) (as := [cv_i x12]) (stk := []) rfl rfl rfl rfl rfl rfl ⟨rfl, rfl⟩ (R := fun o => ∃ (x : Int32) (hb : cv_H), o = (some (cv_i x), hb) ∧ cw_T G hb ∧ cw_PQ G c kd s hb ∧ cw_Fr cw_Ds cw_sh kk_X12_wrong.2.2.2.2.2.1 h hb ∧ x.toInt = 0) (sp_wrong hT Ph x12 (fun x h a1 a2 a3 a4 => ⟨x, h, rfl, a1, a2, a3, a4⟩)) (fun o ho => ?_)
      obtain ⟨x14, h13, rfl, Th13, Ph13, Ch13, hx14⟩ := ho
      show cw_X _ _ _ _ _ [cv_i x14] h13
      have Fh13 : cw_Fr cw_Ds cw_sh kk_X12_number.2.2.2.2.2.1 h h13 := cw_Fr_tr Fh (cw_Fr_mono (by decide +kernel) Ch13)
      have eh13_11 : ri_at h13 111 11 = ri_at h 111 11 := ri_frf Ch13 (d := 12) rfl rfl (by decide +kernel)
      have eh13_9 : ri_at h13 111 9 = ri_at h 111 9 := ri_frf Ch13 (d := 12) rfl rfl (by decide +kernel)
      exact ex_retb oq_X12_number_31 rfl (by omega) (by omega) (hQ x14 h13 Th13 Ph13 Fh13 (by omega) (by omega) (by omega))
  · refine ex_al oq_X12_number_8 rfl ?_
    refine ex_ic oq_X12_number_9 (m := 1) (by decide) (fun x15 hx15 => ?_)
    refine ex_cv oq_X12_number_10 (by decide) hT (k := 111) (d := 12) (as := [cv_i x15]) (stk := []) rfl rfl rfl rfl rfl rfl ⟨rfl, rfl⟩ (R := fun o => ∃ (x : Int32) (hb : cv_H), o = (some (cv_i x), hb) ∧ cw_T G hb ∧ cw_PQ G c kd s hb ∧ cw_Fr cw_Ds cw_sh kk_X12_wrong.2.2.2.2.2.1 h hb ∧ x.toInt = 0) (sp_wrong hT Ph x15 (fun x h a1 a2 a3 a4 => ⟨x, h, rfl, a1, a2, a3, a4⟩)) (fun o ho => ?_)
    obtain ⟨x17, h16, rfl, Th16, Ph16, Ch16, hx17⟩ := ho
    show cw_X _ _ _ _ _ [cv_i x17] h16
    have Fh16 : cw_Fr cw_Ds cw_sh kk_X12_number.2.2.2.2.2.1 h h16 := cw_Fr_tr Fh (cw_Fr_mono (by decide +kernel) Ch16)
    have eh16_11 : ri_at h16 111 11 = ri_at h 111 11 := ri_frf Ch16 (d := 12) rfl rfl (by decide +kernel)
    have eh16_9 : ri_at h16 111 9 = ri_at h 111 9 := ri_frf Ch16 (d := 12) rfl rfl (by decide +kernel)
    exact ex_retb oq_X12_number_13 rfl (by omega) (by omega) (hQ x17 h16 Th16 Ph16 Fh16 (by omega) (by omega) (by omega))
end SPS
