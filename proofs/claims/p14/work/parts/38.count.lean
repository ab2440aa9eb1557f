/-! ===== methods walked by hand: a law's leaves ===== -/
section SPT
variable {G c kd s : Int} {h h' : cv_H}
theorem sn_fr {m : Nat} (hI : sn_I h) (hF : cw_Fr cw_Ds cw_sh m h h') (hm : ([37, 38, 19, 40, 39, 41].all (fun f => !cw_bit m 12 f) && (!cw_bit m 67 0 && !cw_bit m 67 1)) = true) : sn_I h' := by
  simp only [Bool.and_eq_true, List.all_eq_true, Bool.not_eq_true'] at hm
  have e : ∀ f ∈ ([37, 38, 19, 40, 39, 41] : List Nat), ri_at h' 111 f = ri_at h 111 f := fun f hf => ri_frf hF (d := 12) rfl rfl (hm.1 f hf)
  have ew : ri_at h' 128 = ri_at h 128 := funext fun i => ri_frr hF (d := 67) rfl rfl (by rw [hm.2.1, hm.2.2]; rfl)
  unfold sn_I at hI ⊢
  rw [e 37 (by decide), e 38 (by decide), e 19 (by decide), e 40 (by decide), e 39 (by decide), e 41 (by decide), ew]
  exact hI
theorem sn_leaf (hI : sn_I h) (hw : ri_at h 111 41 = 1) (ew : ri_at h' 128 = ri_at h 128) (e1 : ri_at h' 111 37 = ri_at h 111 37) (e2 : ri_at h' 111 38 = ri_at h 111 38 + 1) (e3 : ri_at h' 111 19 = ri_at h 111 19 + 1) (e4 : ri_at h' 111 40 = ri_at h 111 40 + 1) (e5 : ri_at h' 111 39 = ri_at h 111 39) (e6 : ri_at h' 111 41 = 0) : sn_I h' := by
  obtain ⟨i0, i1, i2, i3, i4, i5, i6⟩ := hI
  unfold sn_I
  rw [ew, e1, e2, e3, e4, e5, e6]
  exact ⟨i0, i1, i2, by omega, by omega, i5, by omega⟩
end SPT
section SPU
variable {G c kd s : Int} {X : cv_X} {Q : cv_O → Prop}
theorem oq_X12_isCounted_0 : cw_ho 195 0 (.aload_n 0) 1 0 0 0 := rfl
theorem oq_X12_isCounted_1 : cw_ho 195 1 (.getfield 209) 3 12 40 0 := rfl
theorem oq_X12_isCounted_4 : cw_ho 195 4 (.bipush 64) 2 0 0 0 := rfl
theorem oq_X12_isCounted_6 : cw_ho 195 6 (.if_icmp .ne 9) 3 0 0 0 := rfl
theorem oq_X12_isCounted_9 : cw_ho 195 9 (.aload_n 0) 1 0 0 0 := rfl
theorem oq_X12_isCounted_10 : cw_ho 195 10 (.iconst 2) 1 0 0 0 := rfl
theorem oq_X12_isCounted_11 : cw_ho 195 11 (.invokevirtual 177) 3 159 1 12 := rfl
theorem oq_X12_isCounted_14 : cw_ho 195 14 (.ireturn) 1 0 0 0 := rfl
theorem oq_X12_isCounted_15 : cw_ho 195 15 (.aload_n 0) 1 0 0 0 := rfl
theorem oq_X12_isCounted_16 : cw_ho 195 16 (.dup) 1 0 0 0 := rfl
theorem oq_X12_isCounted_17 : cw_ho 195 17 (.getfield 209) 3 12 40 0 := rfl
theorem oq_X12_isCounted_20 : cw_ho 195 20 (.iconst 1) 1 0 0 0 := rfl
theorem oq_X12_isCounted_21 : cw_ho 195 21 (.iadd) 1 0 0 0 := rfl
theorem oq_X12_isCounted_22 : cw_ho 195 22 (.putfield 209) 3 12 40 0 := rfl
theorem oq_X12_isCounted_25 : cw_ho 195 25 (.iconst 1) 1 0 0 0 := rfl
theorem oq_X12_isCounted_26 : cw_ho 195 26 (.ireturn) 1 0 0 0 := rfl
theorem sp_isCounted {h : cv_H} (hT : cw_T G h) (Ph : cw_PQ G c kd s h) (hQ : ∀ (x : Int32) h', cw_T G h' → cw_PQ G c kd s h' → cw_Fr cw_Ds cw_sh kk_X12_isCounted.2.2.2.2.2.1 h h' → (x.toInt = 0 ∨ x.toInt = 1 ∧ ri_at h 111 40 ≤ 63 ∧ ri_at h' 111 40 = ri_at h 111 40 + 1) → Q (some (cv_i x), h')) : cw_X X 195 Q 0 (cv_ent 0 [cv_r 111]) [] h := by
  have Fh : cw_Fr cw_Ds cw_sh kk_X12_isCounted.2.2.2.2.2.1 h h := cw_Fr_refl
  refine ex_al oq_X12_isCounted_0 rfl ?_
  obtain ⟨x1, ax1, rx1, lx1, ux1⟩ := fi_counted hT
  refine ex_gf oq_X12_isCounted_1 hT (k := 111) (d := 12) rfl rfl ax1 ?_
  refine ex_bi oq_X12_isCounted_4 (m := 64) (by decide) (fun x2 hx2 => ?_)
  refine ex_if oq_X12_isCounted_6 (t := 15) rfl rfl (fun (c3 : ¬ x1.toInt = x2.toInt) => ?_) (fun (c3 : ¬ (¬ x1.toInt = x2.toInt)) => ?_)
  · refine ex_al oq_X12_isCounted_15 rfl ?_
    refine ex_dup oq_X12_isCounted_16 rfl ?_
    obtain ⟨x4, ax4, rx4, lx4, ux4⟩ := fi_counted hT
    refine ex_gf oq_X12_isCounted_17 hT (k := 111) (d := 12) rfl rfl ax4 ?_
    refine ex_ic oq_X12_isCounted_20 (m := 1) (by decide) (fun x5 hx5 => ?_)
    refine ex_add oq_X12_isCounted_21 (by omega) (fun x6 hx6 => ?_)
    refine ex_pfi oq_X12_isCounted_22 hT (k := 111) (d := 12) rfl rfl rfl (by omega) (by omega) (fun h7 Th7 wh7 => ?_)
    have Fh7 : cw_Fr cw_Ds cw_sh kk_X12_isCounted.2.2.2.2.2.1 h h7 := cw_Fr_tr Fh (cw_Fr_wrf wh7 (k := 111) (d := 12) rfl rfl (by decide +kernel))
    have eh7_40 : ri_at h7 111 40 = x6.toInt := ri_self wh7
    refine ex_ic oq_X12_isCounted_25 (m := 1) (by decide) (fun x8 hx8 => ?_)
    have Ph7 : cw_PQ G c kd s h7 := pq_wf Ph wh7 (by decide)
    exact ex_retb oq_X12_isCounted_26 rfl (by omega) (by omega) (hQ x8 h7 Th7 Ph7 Fh7 (by first | (left; omega) | (right; refine ⟨?_, ?_, ?_⟩ <;> omega)))
  · refine ex_al oq_X12_isCounted_9 rfl ?_
    refine ex_ic oq_X12_isCounted_10 (m := 2) (by decide) (fun x9 hx9 => ?_)
    refine ex_cv oq_X12_isCounted_11 (by decide) hT (k := 111) (d := 12) (as := [cv_i x9]) (stk := []) rfl rfl rfl rfl rfl rfl ⟨rfl, rfl⟩ (R := fun o => ∃ (x : Int32) (hb : cv_H), o = (some (cv_i x), hb) ∧ cw_T G hb ∧ cw_PQ G c kd s hb ∧ cw_Fr cw_Ds cw_sh kk_X12_wrong.2.2.2.2.2.1 h hb ∧ x.toInt = 0) (sp_wrong hT Ph x9 (fun x h a1 a2 a3 a4 => ⟨x, h, rfl, a1, a2, a3, a4⟩)) (fun o ho => ?_)
    obtain ⟨x11, h10, rfl, Th10, Ph10, Ch10, hx11⟩ := ho
    show cw_X _ _ _ _ _ [cv_i x11] h10
    have Fh10 : cw_Fr cw_Ds cw_sh kk_X12_isCounted.2.2.2.2.2.1 h h10 := cw_Fr_tr Fh (cw_Fr_mono (by decide +kernel) Ch10)
    have eh10_40 : ri_at h10 111 40 = ri_at h 111 40 := ri_frf Ch10 (d := 12) rfl rfl (by decide +kernel)
    exact ex_retb oq_X12_isCounted_14 rfl (by omega) (by omega) (hQ x11 h10 Th10 Ph10 Fh10 (by first | (left; omega) | (right; refine ⟨?_, ?_, ?_⟩ <;> omega)))
end SPU
