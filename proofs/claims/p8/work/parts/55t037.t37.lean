/-! ===== fault: both sides ===== -/
section TZ
variable {G : Int} {X : cv_X} {Q : cv_O → Prop}
theorem oq_X11_fault_0 : cw_ho 111 0 (.iload_n 1) 1 0 0 0 := rfl
theorem oq_X11_fault_1 : cw_ho 111 1 (.ifCond .ne 11) 3 0 0 0 := rfl
theorem oq_X11_fault_4 : cw_ho 111 4 (.aload_n 0) 1 0 0 0 := rfl
theorem oq_X11_fault_5 : cw_ho 111 5 (.getfield 30) 3 11 4 4 := rfl
theorem oq_X11_fault_8 : cw_ho 111 8 (.getfield 124) 3 5 4 0 := rfl
theorem oq_X11_fault_11 : cw_ho 111 11 (.ireturn) 1 0 0 0 := rfl
theorem oq_X11_fault_12 : cw_ho 111 12 (.iload_n 1) 1 0 0 0 := rfl
theorem oq_X11_fault_13 : cw_ho 111 13 (.iconst 1) 1 0 0 0 := rfl
theorem oq_X11_fault_14 : cw_ho 111 14 (.if_icmp .ne 13) 3 0 0 0 := rfl
theorem oq_X11_fault_17 : cw_ho 111 17 (.aload_n 0) 1 0 0 0 := rfl
theorem oq_X11_fault_18 : cw_ho 111 18 (.getfield 30) 3 11 4 4 := rfl
theorem oq_X11_fault_21 : cw_ho 111 21 (.getfield 127) 3 5 5 0 := rfl
theorem oq_X11_fault_24 : cw_ho 111 24 (.goto 4) 3 0 0 0 := rfl
theorem oq_X11_fault_27 : cw_ho 111 27 (.iconst (-1)) 1 0 0 0 := rfl
theorem oq_X11_fault_28 : cw_ho 111 28 (.ireturn) 1 0 0 0 := rfl
theorem ct_fault {h0 : cv_H} (hT : cw_T G h0) (w : Int32) {f p : Int} (h4 : ri_at h0 50 4 = f) (h5 : ri_at h0 50 5 = p) (hQ : ∀ (x : Int32) h', cw_T G h' → cw_Fr cw_Ds cw_sh kk_X11_fault.2.2.2.2.2.1 h0 h' → (w.toInt = 0 ∧ x.toInt = f ∨ w.toInt = 1 ∧ x.toInt = p ∨ ¬ w.toInt = 0 ∧ ¬ w.toInt = 1 ∧ x.toInt = -1) → Q (some (cv_i x), h')) : cw_X X 111 Q 0 (cv_ent 0 [cv_r 0, cv_i w]) [] h0 := by
  have Fh0 : cw_Fr cw_Ds cw_sh kk_X11_fault.2.2.2.2.2.1 h0 h0 := cw_Fr_refl
  refine ex_il oq_X11_fault_0 rfl ?_
  refine ex_if0 oq_X11_fault_1 (t := 12) rfl rfl (fun (c11 : ¬ w.toInt = 0) => ?_) (fun (c11 : ¬ (¬ w.toInt = 0)) => ?_)
  · refine ex_il oq_X11_fault_12 rfl ?_
    refine ex_ic oq_X11_fault_13 (m := 1) (by decide) (fun x12 hx12 => ?_)
    refine ex_if oq_X11_fault_14 (t := 27) rfl rfl (fun (c13 : ¬ w.toInt = x12.toInt) => ?_) (fun (c13 : ¬ (¬ w.toInt = x12.toInt)) => ?_)
    · refine ex_ic oq_X11_fault_27 (m := (-1)) (by decide) (fun x14 hx14 => ?_)
      exact ex_reti oq_X11_fault_28 rfl (hQ x14 h0 hT Fh0 (by omega))
    · refine ex_al oq_X11_fault_17 rfl ?_
      refine ex_gf oq_X11_fault_18 hT (k := 0) (d := 11) rfl rfl (ri_ref (k := 0) (k' := 50) (d := 11) (f := 4) hT rfl rfl rfl (by decide) (ri_uniq (by decide +kernel))) ?_
      obtain ⟨x15, ax15, rx15, lx15, ux15⟩ := ri_fld (k := 50) (d := 5) (f := 5) hT rfl rfl rfl
      try dsimp only at lx15 ux15
      refine ex_gf oq_X11_fault_21 hT (k := 50) (d := 5) rfl rfl ax15 ?_
      clear lx15 ux15
      have rx15 := (rx15.symm.trans h5 : x15.toInt = p)
      refine ex_go oq_X11_fault_24 (t := 28) rfl rfl ?_
      exact ex_reti oq_X11_fault_28 rfl (hQ x15 h0 hT Fh0 (by omega))
  · refine ex_al oq_X11_fault_4 rfl ?_
    refine ex_gf oq_X11_fault_5 hT (k := 0) (d := 11) rfl rfl (ri_ref (k := 0) (k' := 50) (d := 11) (f := 4) hT rfl rfl rfl (by decide) (ri_uniq (by decide +kernel))) ?_
    obtain ⟨x16, ax16, rx16, lx16, ux16⟩ := ri_fld (k := 50) (d := 5) (f := 4) hT rfl rfl rfl
    try dsimp only at lx16 ux16
    refine ex_gf oq_X11_fault_8 hT (k := 50) (d := 5) rfl rfl ax16 ?_
    clear lx16 ux16
    have rx16 := (rx16.symm.trans h4 : x16.toInt = f)
    exact ex_reti oq_X11_fault_11 rfl (hQ x16 h0 hT Fh0 (by omega))
theorem oq_X12_fault_0 : cw_ho 189 0 (.aload_n 0) 1 0 0 0 := rfl
theorem oq_X12_fault_1 : cw_ho 189 1 (.iconst 0) 1 0 0 0 := rfl
theorem oq_X12_fault_2 : cw_ho 189 2 (.putfield 136) 3 12 2 0 := rfl
theorem oq_X12_fault_5 : cw_ho 189 5 (.iload_n 1) 1 0 0 0 := rfl
theorem oq_X12_fault_6 : cw_ho 189 6 (.ifCond .ne 10) 3 0 0 0 := rfl
theorem oq_X12_fault_9 : cw_ho 189 9 (.aload_n 0) 1 0 0 0 := rfl
theorem oq_X12_fault_10 : cw_ho 189 10 (.getfield 142) 3 12 4 0 := rfl
theorem oq_X12_fault_13 : cw_ho 189 13 (.goto 16) 3 0 0 0 := rfl
theorem oq_X12_fault_16 : cw_ho 189 16 (.iload_n 1) 1 0 0 0 := rfl
theorem oq_X12_fault_17 : cw_ho 189 17 (.iconst 1) 1 0 0 0 := rfl
theorem oq_X12_fault_18 : cw_ho 189 18 (.if_icmp .ne 10) 3 0 0 0 := rfl
theorem oq_X12_fault_21 : cw_ho 189 21 (.aload_n 0) 1 0 0 0 := rfl
theorem oq_X12_fault_22 : cw_ho 189 22 (.getfield 16) 3 12 5 0 := rfl
theorem oq_X12_fault_25 : cw_ho 189 25 (.goto 4) 3 0 0 0 := rfl
theorem oq_X12_fault_28 : cw_ho 189 28 (.iconst (-1)) 1 0 0 0 := rfl
theorem oq_X12_fault_29 : cw_ho 189 29 (.ireturn) 1 0 0 0 := rfl
theorem rt_fault {h0 : cv_H} (hT : cw_T G h0) (w : Int32) {f p : Int} (h4 : ri_at h0 111 4 = f) (h5 : ri_at h0 111 5 = p) (hQ : ∀ (x : Int32) h', cw_T G h' → cw_Fr cw_Ds cw_sh kk_X12_fault.2.2.2.2.2.1 h0 h' → (w.toInt = 0 ∧ x.toInt = f ∨ w.toInt = 1 ∧ x.toInt = p ∨ ¬ w.toInt = 0 ∧ ¬ w.toInt = 1 ∧ x.toInt = -1) → Q (some (cv_i x), h')) : cw_X X 189 Q 0 (cv_ent 0 [cv_r 111, cv_i w]) [] h0 := by
  have Fh0 : cw_Fr cw_Ds cw_sh kk_X12_fault.2.2.2.2.2.1 h0 h0 := cw_Fr_refl
  refine ex_al oq_X12_fault_0 rfl ?_
  refine ex_ic oq_X12_fault_1 (m := 0) (by decide) (fun x11 hx11 => ?_)
  refine ex_pfi oq_X12_fault_2 hT (k := 111) (d := 12) rfl rfl rfl (cw_i32 _).1 (cw_i32 _).2 (fun h12 Th12 wh12 => ?_)
  have Fh12 : cw_Fr cw_Ds cw_sh kk_X12_fault.2.2.2.2.2.1 h0 h12 := cw_Fr_tr Fh0 (cw_Fr_wrf wh12 (k := 111) (d := 12) rfl rfl (by decide +kernel))
  have eh12_111_4 : ri_at h12 111 4 = f := (ri_ne wh12 (.inr (by decide))).trans h4
  have eh12_111_5 : ri_at h12 111 5 = p := (ri_ne wh12 (.inr (by decide))).trans h5
  refine ex_il oq_X12_fault_5 rfl ?_
  refine ex_if0 oq_X12_fault_6 (t := 16) rfl rfl (fun (c13 : ¬ w.toInt = 0) => ?_) (fun (c13 : ¬ (¬ w.toInt = 0)) => ?_)
  · refine ex_il oq_X12_fault_16 rfl ?_
    refine ex_ic oq_X12_fault_17 (m := 1) (by decide) (fun x14 hx14 => ?_)
    refine ex_if oq_X12_fault_18 (t := 28) rfl rfl (fun (c15 : ¬ w.toInt = x14.toInt) => ?_) (fun (c15 : ¬ (¬ w.toInt = x14.toInt)) => ?_)
    · refine ex_ic oq_X12_fault_28 (m := (-1)) (by decide) (fun x16 hx16 => ?_)
      exact ex_reti oq_X12_fault_29 rfl (hQ x16 h12 Th12 Fh12 (by omega))
    · refine ex_al oq_X12_fault_21 rfl ?_
      obtain ⟨x17, ax17, rx17, lx17, ux17⟩ := fi_faultPlace Th12
      refine ex_gf oq_X12_fault_22 Th12 (k := 111) (d := 12) rfl rfl ax17 ?_
      clear lx17 ux17
      have rx17 := (rx17.symm.trans eh12_111_5 : x17.toInt = p)
      refine ex_go oq_X12_fault_25 (t := 29) rfl rfl ?_
      exact ex_reti oq_X12_fault_29 rfl (hQ x17 h12 Th12 Fh12 (by omega))
  · refine ex_al oq_X12_fault_9 rfl ?_
    obtain ⟨x18, ax18, rx18, lx18, ux18⟩ := fi_fault Th12
    refine ex_gf oq_X12_fault_10 Th12 (k := 111) (d := 12) rfl rfl ax18 ?_
    clear lx18 ux18
    have rx18 := (rx18.symm.trans eh12_111_4 : x18.toInt = f)
    refine ex_go oq_X12_fault_13 (t := 29) rfl rfl ?_
    exact ex_reti oq_X12_fault_29 rfl (hQ x18 h12 Th12 Fh12 (by omega))
end TZ
