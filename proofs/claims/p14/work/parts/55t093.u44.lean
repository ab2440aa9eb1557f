/-! ===== measure, strike, known: both sides ===== -/
section TZ
variable {G : Int} {X : cv_X} {Q : cv_O → Prop}
theorem oq_X11_isWeek_0 : cw_ho 118 0 (.iload_n 0) 1 0 0 0 := rfl
theorem oq_X11_isWeek_1 : cw_ho 118 1 (.ifCond .lt 14) 3 0 0 0 := rfl
theorem oq_X11_isWeek_4 : cw_ho 118 4 (.iload_n 0) 1 0 0 0 := rfl
theorem oq_X11_isWeek_5 : cw_ho 118 5 (.sipush 2000) 3 0 0 0 := rfl
theorem oq_X11_isWeek_8 : cw_ho 118 8 (.if_icmp .ge 7) 3 0 0 0 := rfl
theorem oq_X11_isWeek_11 : cw_ho 118 11 (.iconst 1) 1 0 0 0 := rfl
theorem oq_X11_isWeek_12 : cw_ho 118 12 (.goto 4) 3 0 0 0 := rfl
theorem oq_X11_isWeek_15 : cw_ho 118 15 (.iconst 0) 1 0 0 0 := rfl
theorem oq_X11_isWeek_16 : cw_ho 118 16 (.ireturn) 1 0 0 0 := rfl
theorem ct_isWeek {h : cv_H} (n : Int32) (hQ : ∀ x : Int32, (x.toInt = 1 ∧ (0 ≤ n.toInt ∧ n.toInt < 2000) ∨ x.toInt = 0 ∧ ¬ (0 ≤ n.toInt ∧ n.toInt < 2000)) → Q (some (cv_i x), h)) : cw_X X 118 Q 0 (cv_ent 0 [cv_i n]) [] h := by
  refine ex_il oq_X11_isWeek_0 rfl ?_
  refine ex_if0 oq_X11_isWeek_1 (t := 15) rfl rfl (fun (c11 : n.toInt < 0) => ?_) (fun (c11 : ¬ (n.toInt < 0)) => ?_)
  · refine ex_ic oq_X11_isWeek_15 (m := 0) (by decide) (fun x12 hx12 => ?_)
    exact ex_retb oq_X11_isWeek_16 rfl (by omega) (by omega) (hQ x12 (by omega))
  · refine ex_il oq_X11_isWeek_4 rfl ?_
    refine ex_si oq_X11_isWeek_5 (m := 2000) (by decide) (fun x13 hx13 => ?_)
    refine ex_if oq_X11_isWeek_8 (t := 15) rfl rfl (fun (c14 : x13.toInt ≤ n.toInt) => ?_) (fun (c14 : ¬ (x13.toInt ≤ n.toInt)) => ?_)
    · refine ex_ic oq_X11_isWeek_15 (m := 0) (by decide) (fun x15 hx15 => ?_)
      exact ex_retb oq_X11_isWeek_16 rfl (by omega) (by omega) (hQ x15 (by omega))
    · refine ex_ic oq_X11_isWeek_11 (m := 1) (by decide) (fun x16 hx16 => ?_)
      refine ex_go oq_X11_isWeek_12 (t := 16) rfl rfl ?_
      exact ex_retb oq_X11_isWeek_16 rfl (by omega) (by omega) (hQ x16 (by omega))
theorem oq_X11_isGate_0 : cw_ho 114 0 (.iload_n 1) 1 0 0 0 := rfl
theorem oq_X11_isGate_1 : cw_ho 114 1 (.ifCond .lt 27) 3 0 0 0 := rfl
theorem oq_X11_isGate_4 : cw_ho 114 4 (.iload_n 1) 1 0 0 0 := rfl
theorem oq_X11_isGate_5 : cw_ho 114 5 (.aload_n 0) 1 0 0 0 := rfl
theorem oq_X11_isGate_6 : cw_ho 114 6 (.getfield 18) 3 11 2 4 := rfl
theorem oq_X11_isGate_9 : cw_ho 114 9 (.getfield 134) 3 4 9 0 := rfl
theorem oq_X11_isGate_12 : cw_ho 114 12 (.if_icmp .ge 16) 3 0 0 0 := rfl
theorem oq_X11_isGate_15 : cw_ho 114 15 (.iload_n 1) 1 0 0 0 := rfl
theorem oq_X11_isGate_16 : cw_ho 114 16 (.aload_n 0) 1 0 0 0 := rfl
theorem oq_X11_isGate_17 : cw_ho 114 17 (.getfield 50) 3 11 7 4 := rfl
theorem oq_X11_isGate_20 : cw_ho 114 20 (.arraylength) 1 0 0 0 := rfl
theorem oq_X11_isGate_21 : cw_ho 114 21 (.if_icmp .ge 7) 3 0 0 0 := rfl
theorem oq_X11_isGate_24 : cw_ho 114 24 (.iconst 1) 1 0 0 0 := rfl
theorem oq_X11_isGate_25 : cw_ho 114 25 (.goto 4) 3 0 0 0 := rfl
theorem oq_X11_isGate_28 : cw_ho 114 28 (.iconst 0) 1 0 0 0 := rfl
theorem oq_X11_isGate_29 : cw_ho 114 29 (.ireturn) 1 0 0 0 := rfl
theorem ct_isGate {h : cv_H} (hT : cw_T G h) {pl : Nat} (hp4 : cw_sh[pl]? = some 4) (hp2 : cw_at h 0 2 = some (cv_r pl)) {gN : Int} (hg : ri_at h pl 9 = gN) (g : Int32) (hQ : ∀ x : Int32, (x.toInt = 1 ∧ (0 ≤ g.toInt ∧ g.toInt < gN) ∨ x.toInt = 0 ∧ ¬ (0 ≤ g.toInt ∧ g.toInt < gN)) → Q (some (cv_i x), h)) : cw_X X 114 Q 0 (cv_ent 0 [cv_r 0, cv_i g]) [] h := by
  refine ex_il oq_X11_isGate_0 rfl ?_
  refine ex_if0 oq_X11_isGate_1 (t := 28) rfl rfl (fun (c11 : g.toInt < 0) => ?_) (fun (c11 : ¬ (g.toInt < 0)) => ?_)
  · refine ex_ic oq_X11_isGate_28 (m := 0) (by decide) (fun x12 hx12 => ?_)
    exact ex_retb oq_X11_isGate_29 rfl (by omega) (by omega) (hQ x12 (by omega))
  · refine ex_il oq_X11_isGate_4 rfl ?_
    refine ex_al oq_X11_isGate_5 rfl ?_
    refine ex_gf oq_X11_isGate_6 hT (k := 0) (d := 11) rfl rfl (hp2) ?_
    obtain ⟨x13, ax13, rx13, lx13, ux13⟩ := ri_fld (k := pl) (d := 4) (f := 9) hT hp4 rfl rfl
    try dsimp only at lx13 ux13
    refine ex_gf oq_X11_isGate_9 hT (k := pl) (d := 4) hp4 rfl ax13 ?_
    have rx13 := (rx13.symm.trans hg : x13.toInt = gN)
    refine ex_if oq_X11_isGate_12 (t := 28) rfl rfl (fun (c14 : x13.toInt ≤ g.toInt) => ?_) (fun (c14 : ¬ (x13.toInt ≤ g.toInt)) => ?_)
    · refine ex_ic oq_X11_isGate_28 (m := 0) (by decide) (fun x15 hx15 => ?_)
      exact ex_retb oq_X11_isGate_29 rfl (by omega) (by omega) (hQ x15 (by omega))
    · refine ex_il oq_X11_isGate_15 rfl ?_
      refine ex_al oq_X11_isGate_16 rfl ?_
      refine ex_gf oq_X11_isGate_17 hT (k := 0) (d := 11) rfl rfl (ri_ref (k := 0) (k' := 61) (d := 11) (f := 7) hT rfl rfl rfl (by decide) (ri_uniq (by decide +kernel))) ?_
      refine ex_lenr oq_X11_isGate_20 hT (k := 61) (d := 14) rfl rfl (by decide) (fun x16 hx16 => ?_)
      refine ex_if oq_X11_isGate_21 (t := 28) rfl rfl (fun (c17 : x16.toInt ≤ g.toInt) => ?_) (fun (c17 : ¬ (x16.toInt ≤ g.toInt)) => ?_)
      · refine ex_ic oq_X11_isGate_28 (m := 0) (by decide) (fun x18 hx18 => ?_)
        exact ex_retb oq_X11_isGate_29 rfl (by omega) (by omega) (hQ x18 (by omega))
      · refine ex_ic oq_X11_isGate_24 (m := 1) (by decide) (fun x19 hx19 => ?_)
        refine ex_go oq_X11_isGate_25 (t := 29) rfl rfl ?_
        exact ex_retb oq_X11_isGate_29 rfl (by omega) (by omega) (hQ x19 (by omega))
theorem rt_isGate {h : cv_H} (hT : cw_T G h) {gN : Int} (hg : ri_at h 111 12 = gN) (g : Int32) (hQ : ∀ x : Int32, (x.toInt = 1 ∧ (0 ≤ g.toInt ∧ g.toInt < gN) ∨ x.toInt = 0 ∧ ¬ (0 ≤ g.toInt ∧ g.toInt < gN)) → Q (some (cv_i x), h)) : cw_X X 216 Q 0 (cv_ent 0 [cv_r 111, cv_i g]) [] h := by
  refine ex_il oq_X12_isGate_0 rfl ?_
  refine ex_if0 oq_X12_isGate_1 (t := 16) rfl rfl (fun (c11 : g.toInt < 0) => ?_) (fun (c11 : ¬ (g.toInt < 0)) => ?_)
  · refine ex_ic oq_X12_isGate_16 (m := 0) (by decide) (fun x12 hx12 => ?_)
    exact ex_retb oq_X12_isGate_17 rfl (by omega) (by omega) (hQ x12 (by omega))
  · refine ex_il oq_X12_isGate_4 rfl ?_
    refine ex_al oq_X12_isGate_5 rfl ?_
    obtain ⟨x13, ax13, rx13, lx13, ux13⟩ := fi_gates hT
    refine ex_gf oq_X12_isGate_6 hT (k := 111) (d := 12) rfl rfl ax13 ?_
    have rx13 := (rx13.symm.trans hg : x13.toInt = gN)
    refine ex_if oq_X12_isGate_9 (t := 16) rfl rfl (fun (c14 : x13.toInt ≤ g.toInt) => ?_) (fun (c14 : ¬ (x13.toInt ≤ g.toInt)) => ?_)
    · refine ex_ic oq_X12_isGate_16 (m := 0) (by decide) (fun x15 hx15 => ?_)
      exact ex_retb oq_X12_isGate_17 rfl (by omega) (by omega) (hQ x15 (by omega))
    · refine ex_ic oq_X12_isGate_12 (m := 1) (by decide) (fun x16 hx16 => ?_)
      refine ex_go oq_X12_isGate_13 (t := 17) rfl rfl ?_
      exact ex_retb oq_X12_isGate_17 rfl (by omega) (by omega) (hQ x16 (by omega))
theorem oq_X3_add_0 : cw_ho 43 0 (.aload_n 0) 1 0 0 0 := rfl
theorem oq_X3_add_1 : cw_ho 43 1 (.getfield 41) 3 3 9 0 := rfl
theorem oq_X3_add_4 : cw_ho 43 4 (.ifCond .lt 12) 3 0 0 0 := rfl
theorem oq_X3_add_7 : cw_ho 43 7 (.aload_n 0) 1 0 0 0 := rfl
theorem oq_X3_add_8 : cw_ho 43 8 (.getfield 41) 3 3 9 0 := rfl
theorem oq_X3_add_11 : cw_ho 43 11 (.bipush 40) 2 0 0 0 := rfl
theorem oq_X3_add_13 : cw_ho 43 13 (.if_icmp .lt 5) 3 0 0 0 := rfl
theorem oq_X3_add_16 : cw_ho 43 16 (.iconst (-1)) 1 0 0 0 := rfl
theorem oq_X3_add_17 : cw_ho 43 17 (.ireturn) 1 0 0 0 := rfl
theorem oq_X3_add_18 : cw_ho 43 18 (.aload_n 0) 1 0 0 0 := rfl
theorem oq_X3_add_19 : cw_ho 43 19 (.getfield 9) 3 3 0 4 := rfl
theorem oq_X3_add_22 : cw_ho 43 22 (.aload_n 0) 1 0 0 0 := rfl
theorem oq_X3_add_23 : cw_ho 43 23 (.getfield 41) 3 3 9 0 := rfl
theorem oq_X3_add_26 : cw_ho 43 26 (.iload_n 1) 1 0 0 0 := rfl
theorem oq_X3_add_27 : cw_ho 43 27 (.iastore) 1 0 0 0 := rfl
theorem oq_X3_add_28 : cw_ho 43 28 (.aload_n 0) 1 0 0 0 := rfl
theorem oq_X3_add_29 : cw_ho 43 29 (.getfield 15) 3 3 1 4 := rfl
theorem oq_X3_add_32 : cw_ho 43 32 (.aload_n 0) 1 0 0 0 := rfl
theorem oq_X3_add_33 : cw_ho 43 33 (.getfield 41) 3 3 9 0 := rfl
theorem oq_X3_add_36 : cw_ho 43 36 (.iload_n 2) 1 0 0 0 := rfl
theorem oq_X3_add_37 : cw_ho 43 37 (.iastore) 1 0 0 0 := rfl
theorem oq_X3_add_38 : cw_ho 43 38 (.aload_n 0) 1 0 0 0 := rfl
theorem oq_X3_add_39 : cw_ho 43 39 (.getfield 18) 3 3 2 4 := rfl
theorem oq_X3_add_42 : cw_ho 43 42 (.aload_n 0) 1 0 0 0 := rfl
theorem oq_X3_add_43 : cw_ho 43 43 (.getfield 41) 3 3 9 0 := rfl
theorem oq_X3_add_46 : cw_ho 43 46 (.iload_n 3) 1 0 0 0 := rfl
theorem oq_X3_add_47 : cw_ho 43 47 (.iastore) 1 0 0 0 := rfl
theorem oq_X3_add_48 : cw_ho 43 48 (.aload_n 0) 1 0 0 0 := rfl
theorem oq_X3_add_49 : cw_ho 43 49 (.getfield 21) 3 3 3 4 := rfl
theorem oq_X3_add_52 : cw_ho 43 52 (.aload_n 0) 1 0 0 0 := rfl
theorem oq_X3_add_53 : cw_ho 43 53 (.getfield 41) 3 3 9 0 := rfl
theorem oq_X3_add_56 : cw_ho 43 56 (.iload 4) 2 0 0 0 := rfl
theorem oq_X3_add_58 : cw_ho 43 58 (.iastore) 1 0 0 0 := rfl
theorem oq_X3_add_59 : cw_ho 43 59 (.aload_n 0) 1 0 0 0 := rfl
theorem oq_X3_add_60 : cw_ho 43 60 (.getfield 24) 3 3 4 4 := rfl
theorem oq_X3_add_63 : cw_ho 43 63 (.aload_n 0) 1 0 0 0 := rfl
theorem oq_X3_add_64 : cw_ho 43 64 (.getfield 41) 3 3 9 0 := rfl
theorem oq_X3_add_67 : cw_ho 43 67 (.iload 5) 2 0 0 0 := rfl
theorem oq_X3_add_69 : cw_ho 43 69 (.iastore) 1 0 0 0 := rfl
theorem oq_X3_add_70 : cw_ho 43 70 (.aload_n 0) 1 0 0 0 := rfl
theorem oq_X3_add_71 : cw_ho 43 71 (.getfield 27) 3 3 5 4 := rfl
theorem oq_X3_add_74 : cw_ho 43 74 (.aload_n 0) 1 0 0 0 := rfl
theorem oq_X3_add_75 : cw_ho 43 75 (.getfield 41) 3 3 9 0 := rfl
theorem oq_X3_add_78 : cw_ho 43 78 (.iconst (-1)) 1 0 0 0 := rfl
theorem oq_X3_add_79 : cw_ho 43 79 (.iastore) 1 0 0 0 := rfl
theorem oq_X3_add_80 : cw_ho 43 80 (.aload_n 0) 1 0 0 0 := rfl
theorem oq_X3_add_81 : cw_ho 43 81 (.dup) 1 0 0 0 := rfl
theorem oq_X3_add_82 : cw_ho 43 82 (.getfield 41) 3 3 9 0 := rfl
theorem oq_X3_add_85 : cw_ho 43 85 (.iconst 1) 1 0 0 0 := rfl
theorem oq_X3_add_86 : cw_ho 43 86 (.iadd) 1 0 0 0 := rfl
theorem oq_X3_add_87 : cw_ho 43 87 (.putfield 41) 3 3 9 0 := rfl
theorem oq_X3_add_90 : cw_ho 43 90 (.aload_n 0) 1 0 0 0 := rfl
theorem oq_X3_add_91 : cw_ho 43 91 (.getfield 41) 3 3 9 0 := rfl
theorem oq_X3_add_94 : cw_ho 43 94 (.iconst 1) 1 0 0 0 := rfl
theorem oq_X3_add_95 : cw_ho 43 95 (.isub) 1 0 0 0 := rfl
theorem oq_X3_add_96 : cw_ho 43 96 (.ireturn) 1 0 0 0 := rfl
theorem ct_add {h0 : cv_H} (hT : cw_T G h0) {c : Int} (hc : ri_at h0 86 9 = c) (a1 a2 a3 a4 a5 : Int32) (ha : 0 ≤ a2.toInt ∧ a2.toInt < 2000) (hQ : ∀ (x : Int32) h', cw_T G h' → cw_Fr cw_Ds cw_sh kk_X3_add.2.2.2.2.2.1 h0 h' → (c = 40 ∧ x.toInt = -1 ∧ ri_at h' 86 9 = c ∨ ¬ c = 40 ∧ x.toInt = c ∧ ri_at h' 86 9 = c + 1) → Q (some (cv_i x), h')) : cw_X X 43 Q 0 (cv_ent 0 [cv_r 86, cv_i a1, cv_i a2, cv_i a3, cv_i a4, cv_i a5]) [] h0 := by
  have Fh0 : cw_Fr cw_Ds cw_sh kk_X3_add.2.2.2.2.2.1 h0 h0 := cw_Fr_refl
  refine ex_al oq_X3_add_0 rfl ?_
  obtain ⟨x11, ax11, rx11, lx11, ux11⟩ := ri_fld (k := 86) (d := 3) (f := 9) hT rfl rfl rfl
  try dsimp only at lx11 ux11
  refine ex_gf oq_X3_add_1 hT (k := 86) (d := 3) rfl rfl ax11 ?_
  have rx11 := (rx11.symm.trans hc : x11.toInt = c)
  refine ex_if0 oq_X3_add_4 (t := 16) rfl rfl (fun (c12 : x11.toInt < 0) => ?_) (fun (c12 : ¬ (x11.toInt < 0)) => ?_)
  · exfalso; omega
  · refine ex_al oq_X3_add_7 rfl ?_
    obtain ⟨x13, ax13, rx13, lx13, ux13⟩ := ri_fld (k := 86) (d := 3) (f := 9) hT rfl rfl rfl
    try dsimp only at lx13 ux13
    refine ex_gf oq_X3_add_8 hT (k := 86) (d := 3) rfl rfl ax13 ?_
    have rx13 := (rx13.symm.trans hc : x13.toInt = c)
    refine ex_bi oq_X3_add_11 (m := 40) (by decide) (fun x14 hx14 => ?_)
    refine ex_if oq_X3_add_13 (t := 18) rfl rfl (fun (c15 : x13.toInt < x14.toInt) => ?_) (fun (c15 : ¬ (x13.toInt < x14.toInt)) => ?_)
    · refine ex_al oq_X3_add_18 rfl ?_
      refine ex_gf oq_X3_add_19 hT (k := 86) (d := 3) rfl rfl (ri_ref (k := 86) (k' := 87) (d := 3) (f := 0) hT rfl rfl rfl (by decide) (ri_uniq (by decide +kernel))) ?_
      refine ex_al oq_X3_add_22 rfl ?_
      obtain ⟨x16, ax16, rx16, lx16, ux16⟩ := ri_fld (k := 86) (d := 3) (f := 9) hT rfl rfl rfl
      try dsimp only at lx16 ux16
      refine ex_gf oq_X3_add_23 hT (k := 86) (d := 3) rfl rfl ax16 ?_
      have rx16 := (rx16.symm.trans hc : x16.toInt = c)
      refine ex_il oq_X3_add_26 rfl ?_
      refine ex_iw1 oq_X3_add_27 hT (k := 87) (d := 20) (j := x16.toInt.toNat) rfl rfl (by omega) (by omega) ⟨(cw_i32 _).1, (cw_i32 _).2⟩ (fun h17 Th17 wh17 => ?_)
      have Fh17 : cw_Fr cw_Ds cw_sh kk_X3_add.2.2.2.2.2.1 h0 h17 := cw_Fr_tr Fh0 (cw_Fr_wrr wh17 (k := 87) (d := 20) rfl rfl (by decide +kernel))
      have eh17_86_9 : ri_at h17 86 9 = c := (ri_ne wh17 (.inl (by decide))).trans hc
      refine ex_al oq_X3_add_28 rfl ?_
      refine ex_gf oq_X3_add_29 Th17 (k := 86) (d := 3) rfl rfl (ri_ref (k := 86) (k' := 88) (d := 3) (f := 1) Th17 rfl rfl rfl (by decide) (ri_uniq (by decide +kernel))) ?_
      refine ex_al oq_X3_add_32 rfl ?_
      obtain ⟨x18, ax18, rx18, lx18, ux18⟩ := ri_fld (k := 86) (d := 3) (f := 9) Th17 rfl rfl rfl
      try dsimp only at lx18 ux18
      refine ex_gf oq_X3_add_33 Th17 (k := 86) (d := 3) rfl rfl ax18 ?_
      have rx18 := (rx18.symm.trans eh17_86_9 : x18.toInt = c)
      refine ex_il oq_X3_add_36 rfl ?_
      refine ex_iw1 oq_X3_add_37 Th17 (k := 88) (d := 21) (j := x18.toInt.toNat) rfl rfl (by omega) (by omega) ⟨by omega, by omega⟩ (fun h19 Th19 wh19 => ?_)
      have Fh19 : cw_Fr cw_Ds cw_sh kk_X3_add.2.2.2.2.2.1 h0 h19 := cw_Fr_tr Fh17 (cw_Fr_wrr wh19 (k := 88) (d := 21) rfl rfl (by decide +kernel))
      have eh19_86_9 : ri_at h19 86 9 = c := (ri_ne wh19 (.inl (by decide))).trans eh17_86_9
      clear eh17_86_9
      refine ex_al oq_X3_add_38 rfl ?_
      refine ex_gf oq_X3_add_39 Th19 (k := 86) (d := 3) rfl rfl (ri_ref (k := 86) (k' := 89) (d := 3) (f := 2) Th19 rfl rfl rfl (by decide) (ri_uniq (by decide +kernel))) ?_
      refine ex_al oq_X3_add_42 rfl ?_
      obtain ⟨x20, ax20, rx20, lx20, ux20⟩ := ri_fld (k := 86) (d := 3) (f := 9) Th19 rfl rfl rfl
      try dsimp only at lx20 ux20
      refine ex_gf oq_X3_add_43 Th19 (k := 86) (d := 3) rfl rfl ax20 ?_
      have rx20 := (rx20.symm.trans eh19_86_9 : x20.toInt = c)
      refine ex_il oq_X3_add_46 rfl ?_
      refine ex_iw1 oq_X3_add_47 Th19 (k := 89) (d := 22) (j := x20.toInt.toNat) rfl rfl (by omega) (by omega) ⟨(cw_i32 _).1, (cw_i32 _).2⟩ (fun h21 Th21 wh21 => ?_)
      have Fh21 : cw_Fr cw_Ds cw_sh kk_X3_add.2.2.2.2.2.1 h0 h21 := cw_Fr_tr Fh19 (cw_Fr_wrr wh21 (k := 89) (d := 22) rfl rfl (by decide +kernel))
      have eh21_86_9 : ri_at h21 86 9 = c := (ri_ne wh21 (.inl (by decide))).trans eh19_86_9
      clear eh19_86_9
      refine ex_al oq_X3_add_48 rfl ?_
      refine ex_gf oq_X3_add_49 Th21 (k := 86) (d := 3) rfl rfl (ri_ref (k := 86) (k' := 90) (d := 3) (f := 3) Th21 rfl rfl rfl (by decide) (ri_uniq (by decide +kernel))) ?_
      refine ex_al oq_X3_add_52 rfl ?_
      obtain ⟨x22, ax22, rx22, lx22, ux22⟩ := ri_fld (k := 86) (d := 3) (f := 9) Th21 rfl rfl rfl
      try dsimp only at lx22 ux22
      refine ex_gf oq_X3_add_53 Th21 (k := 86) (d := 3) rfl rfl ax22 ?_
      have rx22 := (rx22.symm.trans eh21_86_9 : x22.toInt = c)
      refine ex_ilw oq_X3_add_56 rfl ?_
      refine ex_iw1 oq_X3_add_58 Th21 (k := 90) (d := 23) (j := x22.toInt.toNat) rfl rfl (by omega) (by omega) ⟨(cw_i32 _).1, (cw_i32 _).2⟩ (fun h23 Th23 wh23 => ?_)
      have Fh23 : cw_Fr cw_Ds cw_sh kk_X3_add.2.2.2.2.2.1 h0 h23 := cw_Fr_tr Fh21 (cw_Fr_wrr wh23 (k := 90) (d := 23) rfl rfl (by decide +kernel))
      have eh23_86_9 : ri_at h23 86 9 = c := (ri_ne wh23 (.inl (by decide))).trans eh21_86_9
      clear eh21_86_9
      refine ex_al oq_X3_add_59 rfl ?_
      refine ex_gf oq_X3_add_60 Th23 (k := 86) (d := 3) rfl rfl (ri_ref (k := 86) (k' := 91) (d := 3) (f := 4) Th23 rfl rfl rfl (by decide) (ri_uniq (by decide +kernel))) ?_
      refine ex_al oq_X3_add_63 rfl ?_
      obtain ⟨x24, ax24, rx24, lx24, ux24⟩ := ri_fld (k := 86) (d := 3) (f := 9) Th23 rfl rfl rfl
      try dsimp only at lx24 ux24
      refine ex_gf oq_X3_add_64 Th23 (k := 86) (d := 3) rfl rfl ax24 ?_
      have rx24 := (rx24.symm.trans eh23_86_9 : x24.toInt = c)
      refine ex_ilw oq_X3_add_67 rfl ?_
      refine ex_iw1 oq_X3_add_69 Th23 (k := 91) (d := 24) (j := x24.toInt.toNat) rfl rfl (by omega) (by omega) ⟨(cw_i32 _).1, (cw_i32 _).2⟩ (fun h25 Th25 wh25 => ?_)
      have Fh25 : cw_Fr cw_Ds cw_sh kk_X3_add.2.2.2.2.2.1 h0 h25 := cw_Fr_tr Fh23 (cw_Fr_wrr wh25 (k := 91) (d := 24) rfl rfl (by decide +kernel))
      have eh25_86_9 : ri_at h25 86 9 = c := (ri_ne wh25 (.inl (by decide))).trans eh23_86_9
      clear eh23_86_9
      refine ex_al oq_X3_add_70 rfl ?_
      refine ex_gf oq_X3_add_71 Th25 (k := 86) (d := 3) rfl rfl (ri_ref (k := 86) (k' := 92) (d := 3) (f := 5) Th25 rfl rfl rfl (by decide) (ri_uniq (by decide +kernel))) ?_
      refine ex_al oq_X3_add_74 rfl ?_
      obtain ⟨x26, ax26, rx26, lx26, ux26⟩ := ri_fld (k := 86) (d := 3) (f := 9) Th25 rfl rfl rfl
      try dsimp only at lx26 ux26
      refine ex_gf oq_X3_add_75 Th25 (k := 86) (d := 3) rfl rfl ax26 ?_
      have rx26 := (rx26.symm.trans eh25_86_9 : x26.toInt = c)
      refine ex_ic oq_X3_add_78 (m := (-1)) (by decide) (fun x27 hx27 => ?_)
      refine ex_iw1 oq_X3_add_79 Th25 (k := 92) (d := 25) (j := x26.toInt.toNat) rfl rfl (by omega) (by omega) ⟨by omega, by omega⟩ (fun h28 Th28 wh28 => ?_)
      have Fh28 : cw_Fr cw_Ds cw_sh kk_X3_add.2.2.2.2.2.1 h0 h28 := cw_Fr_tr Fh25 (cw_Fr_wrr wh28 (k := 92) (d := 25) rfl rfl (by decide +kernel))
      have eh28_86_9 : ri_at h28 86 9 = c := (ri_ne wh28 (.inl (by decide))).trans eh25_86_9
      clear eh25_86_9
      refine ex_al oq_X3_add_80 rfl ?_
      refine ex_dup oq_X3_add_81 rfl ?_
      obtain ⟨x29, ax29, rx29, lx29, ux29⟩ := ri_fld (k := 86) (d := 3) (f := 9) Th28 rfl rfl rfl
      try dsimp only at lx29 ux29
      refine ex_gf oq_X3_add_82 Th28 (k := 86) (d := 3) rfl rfl ax29 ?_
      have rx29 := (rx29.symm.trans eh28_86_9 : x29.toInt = c)
      refine ex_ic oq_X3_add_85 (m := 1) (by decide) (fun x30 hx30 => ?_)
      refine ex_add oq_X3_add_86 (by omega) (fun x31 hx31 => ?_)
      refine ex_pfi oq_X3_add_87 Th28 (k := 86) (d := 3) rfl rfl rfl (by omega) (by omega) (fun h32 Th32 wh32 => ?_)
      have Fh32 : cw_Fr cw_Ds cw_sh kk_X3_add.2.2.2.2.2.1 h0 h32 := cw_Fr_tr Fh28 (cw_Fr_wrf wh32 (k := 86) (d := 3) rfl rfl (by decide +kernel))
      have eh32_86_9 : ri_at h32 86 9 = x31.toInt := ri_self wh32
      refine ex_al oq_X3_add_90 rfl ?_
      obtain ⟨x33, ax33, rx33, lx33, ux33⟩ := ri_fld (k := 86) (d := 3) (f := 9) Th32 rfl rfl rfl
      try dsimp only at lx33 ux33
      refine ex_gf oq_X3_add_91 Th32 (k := 86) (d := 3) rfl rfl ax33 ?_
      have rx33 := (rx33.symm.trans eh32_86_9 : x33.toInt = x31.toInt)
      refine ex_ic oq_X3_add_94 (m := 1) (by decide) (fun x34 hx34 => ?_)
      refine ex_sub oq_X3_add_95 (by omega) (fun x35 hx35 => ?_)
      exact ex_reti oq_X3_add_96 rfl (hQ x35 h32 Th32 Fh32 (by omega))
    · refine ex_ic oq_X3_add_16 (m := (-1)) (by decide) (fun x36 hx36 => ?_)
      exact ex_reti oq_X3_add_17 rfl (hQ x36 h0 hT Fh0 (by omega))
theorem oq_X3_addStrike_0 : cw_ho 44 0 (.aload_n 0) 1 0 0 0 := rfl
theorem oq_X3_addStrike_1 : cw_ho 44 1 (.getfield 41) 3 3 9 0 := rfl
theorem oq_X3_addStrike_4 : cw_ho 44 4 (.ifCond .lt 12) 3 0 0 0 := rfl
theorem oq_X3_addStrike_7 : cw_ho 44 7 (.aload_n 0) 1 0 0 0 := rfl
theorem oq_X3_addStrike_8 : cw_ho 44 8 (.getfield 41) 3 3 9 0 := rfl
theorem oq_X3_addStrike_11 : cw_ho 44 11 (.bipush 40) 2 0 0 0 := rfl
theorem oq_X3_addStrike_13 : cw_ho 44 13 (.if_icmp .lt 5) 3 0 0 0 := rfl
theorem oq_X3_addStrike_16 : cw_ho 44 16 (.iconst (-1)) 1 0 0 0 := rfl
theorem oq_X3_addStrike_17 : cw_ho 44 17 (.ireturn) 1 0 0 0 := rfl
theorem oq_X3_addStrike_18 : cw_ho 44 18 (.aload_n 0) 1 0 0 0 := rfl
theorem oq_X3_addStrike_19 : cw_ho 44 19 (.getfield 9) 3 3 0 4 := rfl
theorem oq_X3_addStrike_22 : cw_ho 44 22 (.aload_n 0) 1 0 0 0 := rfl
theorem oq_X3_addStrike_23 : cw_ho 44 23 (.getfield 41) 3 3 9 0 := rfl
theorem oq_X3_addStrike_26 : cw_ho 44 26 (.iconst (-1)) 1 0 0 0 := rfl
theorem oq_X3_addStrike_27 : cw_ho 44 27 (.iastore) 1 0 0 0 := rfl
theorem oq_X3_addStrike_28 : cw_ho 44 28 (.aload_n 0) 1 0 0 0 := rfl
theorem oq_X3_addStrike_29 : cw_ho 44 29 (.getfield 27) 3 3 5 4 := rfl
theorem oq_X3_addStrike_32 : cw_ho 44 32 (.aload_n 0) 1 0 0 0 := rfl
theorem oq_X3_addStrike_33 : cw_ho 44 33 (.getfield 41) 3 3 9 0 := rfl
theorem oq_X3_addStrike_36 : cw_ho 44 36 (.iload_n 1) 1 0 0 0 := rfl
theorem oq_X3_addStrike_37 : cw_ho 44 37 (.iastore) 1 0 0 0 := rfl
theorem oq_X3_addStrike_38 : cw_ho 44 38 (.aload_n 0) 1 0 0 0 := rfl
theorem oq_X3_addStrike_39 : cw_ho 44 39 (.dup) 1 0 0 0 := rfl
theorem oq_X3_addStrike_40 : cw_ho 44 40 (.getfield 41) 3 3 9 0 := rfl
theorem oq_X3_addStrike_43 : cw_ho 44 43 (.iconst 1) 1 0 0 0 := rfl
theorem oq_X3_addStrike_44 : cw_ho 44 44 (.iadd) 1 0 0 0 := rfl
theorem oq_X3_addStrike_45 : cw_ho 44 45 (.putfield 41) 3 3 9 0 := rfl
theorem oq_X3_addStrike_48 : cw_ho 44 48 (.aload_n 0) 1 0 0 0 := rfl
theorem oq_X3_addStrike_49 : cw_ho 44 49 (.getfield 41) 3 3 9 0 := rfl
theorem oq_X3_addStrike_52 : cw_ho 44 52 (.iconst 1) 1 0 0 0 := rfl
theorem oq_X3_addStrike_53 : cw_ho 44 53 (.isub) 1 0 0 0 := rfl
theorem oq_X3_addStrike_54 : cw_ho 44 54 (.ireturn) 1 0 0 0 := rfl
theorem ct_addStrike {h0 : cv_H} (hT : cw_T G h0) {c : Int} (hc : ri_at h0 86 9 = c) (a1 : Int32) (ha : 0 ≤ a1.toInt ∧ a1.toInt < c) (hQ : ∀ (x : Int32) h', cw_T G h' → cw_Fr cw_Ds cw_sh kk_X3_addStrike.2.2.2.2.2.1 h0 h' → (c = 40 ∧ x.toInt = -1 ∧ ri_at h' 86 9 = c ∨ ¬ c = 40 ∧ x.toInt = c ∧ ri_at h' 86 9 = c + 1) → Q (some (cv_i x), h')) : cw_X X 44 Q 0 (cv_ent 0 [cv_r 86, cv_i a1]) [] h0 := by
  have Fh0 : cw_Fr cw_Ds cw_sh kk_X3_addStrike.2.2.2.2.2.1 h0 h0 := cw_Fr_refl
  refine ex_al oq_X3_addStrike_0 rfl ?_
  obtain ⟨x11, ax11, rx11, lx11, ux11⟩ := ri_fld (k := 86) (d := 3) (f := 9) hT rfl rfl rfl
  try dsimp only at lx11 ux11
  refine ex_gf oq_X3_addStrike_1 hT (k := 86) (d := 3) rfl rfl ax11 ?_
  have rx11 := (rx11.symm.trans hc : x11.toInt = c)
  refine ex_if0 oq_X3_addStrike_4 (t := 16) rfl rfl (fun (c12 : x11.toInt < 0) => ?_) (fun (c12 : ¬ (x11.toInt < 0)) => ?_)
  · exfalso; omega
  · refine ex_al oq_X3_addStrike_7 rfl ?_
    obtain ⟨x13, ax13, rx13, lx13, ux13⟩ := ri_fld (k := 86) (d := 3) (f := 9) hT rfl rfl rfl
    try dsimp only at lx13 ux13
    refine ex_gf oq_X3_addStrike_8 hT (k := 86) (d := 3) rfl rfl ax13 ?_
    have rx13 := (rx13.symm.trans hc : x13.toInt = c)
    refine ex_bi oq_X3_addStrike_11 (m := 40) (by decide) (fun x14 hx14 => ?_)
    refine ex_if oq_X3_addStrike_13 (t := 18) rfl rfl (fun (c15 : x13.toInt < x14.toInt) => ?_) (fun (c15 : ¬ (x13.toInt < x14.toInt)) => ?_)
    · refine ex_al oq_X3_addStrike_18 rfl ?_
      refine ex_gf oq_X3_addStrike_19 hT (k := 86) (d := 3) rfl rfl (ri_ref (k := 86) (k' := 87) (d := 3) (f := 0) hT rfl rfl rfl (by decide) (ri_uniq (by decide +kernel))) ?_
      refine ex_al oq_X3_addStrike_22 rfl ?_
      obtain ⟨x16, ax16, rx16, lx16, ux16⟩ := ri_fld (k := 86) (d := 3) (f := 9) hT rfl rfl rfl
      try dsimp only at lx16 ux16
      refine ex_gf oq_X3_addStrike_23 hT (k := 86) (d := 3) rfl rfl ax16 ?_
      have rx16 := (rx16.symm.trans hc : x16.toInt = c)
      refine ex_ic oq_X3_addStrike_26 (m := (-1)) (by decide) (fun x17 hx17 => ?_)
      refine ex_iw1 oq_X3_addStrike_27 hT (k := 87) (d := 20) (j := x16.toInt.toNat) rfl rfl (by omega) (by omega) ⟨(cw_i32 _).1, (cw_i32 _).2⟩ (fun h18 Th18 wh18 => ?_)
      have Fh18 : cw_Fr cw_Ds cw_sh kk_X3_addStrike.2.2.2.2.2.1 h0 h18 := cw_Fr_tr Fh0 (cw_Fr_wrr wh18 (k := 87) (d := 20) rfl rfl (by decide +kernel))
      have eh18_86_9 : ri_at h18 86 9 = c := (ri_ne wh18 (.inl (by decide))).trans hc
      refine ex_al oq_X3_addStrike_28 rfl ?_
      refine ex_gf oq_X3_addStrike_29 Th18 (k := 86) (d := 3) rfl rfl (ri_ref (k := 86) (k' := 92) (d := 3) (f := 5) Th18 rfl rfl rfl (by decide) (ri_uniq (by decide +kernel))) ?_
      refine ex_al oq_X3_addStrike_32 rfl ?_
      obtain ⟨x19, ax19, rx19, lx19, ux19⟩ := ri_fld (k := 86) (d := 3) (f := 9) Th18 rfl rfl rfl
      try dsimp only at lx19 ux19
      refine ex_gf oq_X3_addStrike_33 Th18 (k := 86) (d := 3) rfl rfl ax19 ?_
      have rx19 := (rx19.symm.trans eh18_86_9 : x19.toInt = c)
      refine ex_il oq_X3_addStrike_36 rfl ?_
      refine ex_iw1 oq_X3_addStrike_37 Th18 (k := 92) (d := 25) (j := x19.toInt.toNat) rfl rfl (by omega) (by omega) ⟨by omega, by omega⟩ (fun h20 Th20 wh20 => ?_)
      have Fh20 : cw_Fr cw_Ds cw_sh kk_X3_addStrike.2.2.2.2.2.1 h0 h20 := cw_Fr_tr Fh18 (cw_Fr_wrr wh20 (k := 92) (d := 25) rfl rfl (by decide +kernel))
      have eh20_86_9 : ri_at h20 86 9 = c := (ri_ne wh20 (.inl (by decide))).trans eh18_86_9
      clear eh18_86_9
      refine ex_al oq_X3_addStrike_38 rfl ?_
      refine ex_dup oq_X3_addStrike_39 rfl ?_
      obtain ⟨x21, ax21, rx21, lx21, ux21⟩ := ri_fld (k := 86) (d := 3) (f := 9) Th20 rfl rfl rfl
      try dsimp only at lx21 ux21
      refine ex_gf oq_X3_addStrike_40 Th20 (k := 86) (d := 3) rfl rfl ax21 ?_
      have rx21 := (rx21.symm.trans eh20_86_9 : x21.toInt = c)
      refine ex_ic oq_X3_addStrike_43 (m := 1) (by decide) (fun x22 hx22 => ?_)
      refine ex_add oq_X3_addStrike_44 (by omega) (fun x23 hx23 => ?_)
      refine ex_pfi oq_X3_addStrike_45 Th20 (k := 86) (d := 3) rfl rfl rfl (by omega) (by omega) (fun h24 Th24 wh24 => ?_)
      have Fh24 : cw_Fr cw_Ds cw_sh kk_X3_addStrike.2.2.2.2.2.1 h0 h24 := cw_Fr_tr Fh20 (cw_Fr_wrf wh24 (k := 86) (d := 3) rfl rfl (by decide +kernel))
      have eh24_86_9 : ri_at h24 86 9 = x23.toInt := ri_self wh24
      refine ex_al oq_X3_addStrike_48 rfl ?_
      obtain ⟨x25, ax25, rx25, lx25, ux25⟩ := ri_fld (k := 86) (d := 3) (f := 9) Th24 rfl rfl rfl
      try dsimp only at lx25 ux25
      refine ex_gf oq_X3_addStrike_49 Th24 (k := 86) (d := 3) rfl rfl ax25 ?_
      have rx25 := (rx25.symm.trans eh24_86_9 : x25.toInt = x23.toInt)
      refine ex_ic oq_X3_addStrike_52 (m := 1) (by decide) (fun x26 hx26 => ?_)
      refine ex_sub oq_X3_addStrike_53 (by omega) (fun x27 hx27 => ?_)
      exact ex_reti oq_X3_addStrike_54 rfl (hQ x27 h24 Th24 Fh24 (by omega))
    · refine ex_ic oq_X3_addStrike_16 (m := (-1)) (by decide) (fun x28 hx28 => ?_)
      exact ex_reti oq_X3_addStrike_17 rfl (hQ x28 h0 hT Fh0 (by omega))
theorem oq_X11_measure_0 : cw_ho 135 0 (.iload 4) 2 0 0 0 := rfl
theorem oq_X11_measure_2 : cw_ho 135 2 (.ldc_w 321) 3 0 0 (-9999999) := rfl
theorem oq_X11_measure_5 : cw_ho 135 5 (.if_icmp .lt 22) 3 0 0 0 := rfl
theorem oq_X11_measure_8 : cw_ho 135 8 (.iload 4) 2 0 0 0 := rfl
theorem oq_X11_measure_10 : cw_ho 135 10 (.iload 5) 2 0 0 0 := rfl
theorem oq_X11_measure_12 : cw_ho 135 12 (.if_icmp .gt 15) 3 0 0 0 := rfl
theorem oq_X11_measure_15 : cw_ho 135 15 (.iload 5) 2 0 0 0 := rfl
theorem oq_X11_measure_17 : cw_ho 135 17 (.ldc_w 322) 3 0 0 9999999 := rfl
theorem oq_X11_measure_20 : cw_ho 135 20 (.if_icmp .gt 7) 3 0 0 0 := rfl
theorem oq_X11_measure_23 : cw_ho 135 23 (.iconst 1) 1 0 0 0 := rfl
theorem oq_X11_measure_24 : cw_ho 135 24 (.goto 4) 3 0 0 0 := rfl
theorem oq_X11_measure_27 : cw_ho 135 27 (.iconst 0) 1 0 0 0 := rfl
theorem oq_X11_measure_28 : cw_ho 135 28 (.istore 6) 2 0 0 0 := rfl
theorem oq_X11_measure_30 : cw_ho 135 30 (.aload_n 0) 1 0 0 0 := rfl
theorem oq_X11_measure_31 : cw_ho 135 31 (.iload_n 1) 1 0 0 0 := rfl
theorem oq_X11_measure_32 : cw_ho 135 32 (.invokevirtual 155) 3 114 1 11 := rfl
theorem oq_X11_measure_35 : cw_ho 135 35 (.ifCond .eq 24) 3 0 0 0 := rfl
theorem oq_X11_measure_38 : cw_ho 135 38 (.iload_n 2) 1 0 0 0 := rfl
theorem oq_X11_measure_39 : cw_ho 135 39 (.invokestatic 220) 3 118 1 0 := rfl
theorem oq_X11_measure_42 : cw_ho 135 42 (.ifCond .eq 17) 3 0 0 0 := rfl
theorem oq_X11_measure_45 : cw_ho 135 45 (.iload_n 3) 1 0 0 0 := rfl
theorem oq_X11_measure_46 : cw_ho 135 46 (.ifCond .lt 13) 3 0 0 0 := rfl
theorem oq_X11_measure_49 : cw_ho 135 49 (.iload_n 3) 1 0 0 0 := rfl
theorem oq_X11_measure_50 : cw_ho 135 50 (.iconst 4) 1 0 0 0 := rfl
theorem oq_X11_measure_51 : cw_ho 135 51 (.if_icmp .ge 8) 3 0 0 0 := rfl
theorem oq_X11_measure_54 : cw_ho 135 54 (.iload 6) 2 0 0 0 := rfl
theorem oq_X11_measure_56 : cw_ho 135 56 (.ifCond .ne 5) 3 0 0 0 := rfl
theorem oq_X11_measure_59 : cw_ho 135 59 (.iconst (-1)) 1 0 0 0 := rfl
theorem oq_X11_measure_60 : cw_ho 135 60 (.ireturn) 1 0 0 0 := rfl
theorem oq_X11_measure_61 : cw_ho 135 61 (.aload_n 0) 1 0 0 0 := rfl
theorem oq_X11_measure_62 : cw_ho 135 62 (.getfield 73) 3 11 12 4 := rfl
theorem oq_X11_measure_65 : cw_ho 135 65 (.iload_n 1) 1 0 0 0 := rfl
theorem oq_X11_measure_66 : cw_ho 135 66 (.iload_n 2) 1 0 0 0 := rfl
theorem oq_X11_measure_67 : cw_ho 135 67 (.iload_n 3) 1 0 0 0 := rfl
theorem oq_X11_measure_68 : cw_ho 135 68 (.iload 4) 2 0 0 0 := rfl
theorem oq_X11_measure_70 : cw_ho 135 70 (.iload 5) 2 0 0 0 := rfl
theorem oq_X11_measure_72 : cw_ho 135 72 (.invokevirtual 323) 3 43 5 3 := rfl
theorem oq_X11_measure_75 : cw_ho 135 75 (.ireturn) 1 0 0 0 := rfl
set_option maxHeartbeats 8000000 in
theorem ct_measure {h0 : cv_H} (hT : cw_T G h0) (hP : cw_PP G h0) {pl : Nat} (hp4 : cw_sh[pl]? = some 4) (hp2 : cw_at h0 0 2 = some (cv_r pl)) {gN c : Int} (hg : ri_at h0 pl 9 = gN) (hc : ri_at h0 86 9 = c) (g w q lo hi : Int32) (hQ : ∀ (x : Int32) h', cw_T G h' → cw_PP G h' → cw_Fr cw_Ds cw_sh kk_X11_measure.2.2.2.2.2.1 h0 h' → ((c = 40 ∨ ¬ ((0 ≤ g.toInt ∧ g.toInt < gN) ∧ (0 ≤ w.toInt ∧ w.toInt < 2000) ∧ (0 ≤ q.toInt ∧ q.toInt < 4) ∧ -9999999 ≤ lo.toInt ∧ lo.toInt ≤ hi.toInt ∧ hi.toInt ≤ 9999999)) ∧ x.toInt = -1 ∧ ri_at h' 86 9 = c ∨ (¬ c = 40 ∧ ((0 ≤ g.toInt ∧ g.toInt < gN) ∧ (0 ≤ w.toInt ∧ w.toInt < 2000) ∧ (0 ≤ q.toInt ∧ q.toInt < 4) ∧ -9999999 ≤ lo.toInt ∧ lo.toInt ≤ hi.toInt ∧ hi.toInt ≤ 9999999)) ∧ x.toInt = c ∧ ri_at h' 86 9 = c + 1) → Q (some (cv_i x), h')) : cw_X X 135 Q 0 (cv_ent 0 [cv_r 0, cv_i g, cv_i w, cv_i q, cv_i lo, cv_i hi]) [] h0 := by
  have Fh0 : cw_Fr cw_Ds cw_sh kk_X11_measure.2.2.2.2.2.1 h0 h0 := cw_Fr_refl
  refine ex_ilw oq_X11_measure_0 rfl ?_
  refine ex_ldcw oq_X11_measure_2 (m := (-9999999)) (by decide) (fun x101 hx101 => ?_)
  refine ex_if oq_X11_measure_5 (t := 27) rfl rfl (fun (c102 : lo.toInt < x101.toInt) => ?_) (fun (c102 : ¬ (lo.toInt < x101.toInt)) => ?_)
  · refine ex_ic oq_X11_measure_27 (m := 0) (by decide) (fun x103 hx103 => ?_)
    refine ex_iswA oq_X11_measure_28 (fun L104 gL104_6 kL104 => ?_)
    have gL104_0 : cv_get L104 0 = some (cv_r 0) := kL104 0 _ (by decide) (fun q => absurd q (by decide)) rfl
    have gL104_1 : cv_get L104 1 = some (cv_i g) := kL104 1 _ (by decide) (fun q => absurd q (by decide)) rfl
    have gL104_2 : cv_get L104 2 = some (cv_i w) := kL104 2 _ (by decide) (fun q => absurd q (by decide)) rfl
    have gL104_3 : cv_get L104 3 = some (cv_i q) := kL104 3 _ (by decide) (fun q => absurd q (by decide)) rfl
    have gL104_4 : cv_get L104 4 = some (cv_i lo) := kL104 4 _ (by decide) (fun q => absurd q (by decide)) rfl
    have gL104_5 : cv_get L104 5 = some (cv_i hi) := kL104 5 _ (by decide) (fun _ => rfl) rfl
    refine ex_al oq_X11_measure_30 gL104_0 ?_
    refine ex_il oq_X11_measure_31 gL104_1 ?_
    refine ex_cv oq_X11_measure_32 (by decide) hT (k := 0) (d := 11) (as := [cv_i g]) (stk := []) rfl rfl rfl rfl rfl rfl ⟨rfl, rfl⟩ (R := fun o => ∃ x : Int32, o = (some (cv_i x), h0) ∧ (x.toInt = 1 ∧ (0 ≤ g.toInt ∧ g.toInt < gN) ∨ x.toInt = 0 ∧ ¬ (0 ≤ g.toInt ∧ g.toInt < gN))) (ct_isGate hT hp4 hp2 hg g (fun x q => ⟨x, rfl, q⟩)) (fun o ho => ?_)
    obtain ⟨x105, rfl, dx105⟩ := ho
    show cw_X _ _ _ _ _ [cv_i x105] h0
    refine ex_if0 oq_X11_measure_35 (t := 59) rfl rfl (fun (c106 : x105.toInt = 0) => ?_) (fun (c106 : ¬ (x105.toInt = 0)) => ?_)
    · replace dx105 := bit_n dx105 c106
      refine ex_ic oq_X11_measure_59 (m := (-1)) (by decide) (fun x107 hx107 => ?_)
      exact ex_reti oq_X11_measure_60 rfl (hQ x107 h0 hT (pp_fr0 (by decide +kernel) hP Fh0) Fh0 (by omega))
    · replace c106 : ¬ x105.toInt = 0 := by omega
      replace dx105 := bit_y dx105 c106
      refine ex_il oq_X11_measure_38 gL104_2 ?_
      refine ex_cs oq_X11_measure_39 (by decide) (as := [cv_i w]) (stk := []) rfl rfl rfl ⟨rfl, rfl⟩ (R := fun o => ∃ x : Int32, o = (some (cv_i x), h0) ∧ (x.toInt = 1 ∧ (0 ≤ w.toInt ∧ w.toInt < 2000) ∨ x.toInt = 0 ∧ ¬ (0 ≤ w.toInt ∧ w.toInt < 2000))) (ct_isWeek  w (fun x q => ⟨x, rfl, q⟩)) (fun o ho => ?_)
      obtain ⟨x108, rfl, dx108⟩ := ho
      show cw_X _ _ _ _ _ [cv_i x108] h0
      refine ex_if0 oq_X11_measure_42 (t := 59) rfl rfl (fun (c109 : x108.toInt = 0) => ?_) (fun (c109 : ¬ (x108.toInt = 0)) => ?_)
      · replace dx108 := bit_n dx108 c109
        refine ex_ic oq_X11_measure_59 (m := (-1)) (by decide) (fun x110 hx110 => ?_)
        exact ex_reti oq_X11_measure_60 rfl (hQ x110 h0 hT (pp_fr0 (by decide +kernel) hP Fh0) Fh0 (by omega))
      · replace c109 : ¬ x108.toInt = 0 := by omega
        replace dx108 := bit_y dx108 c109
        refine ex_il oq_X11_measure_45 gL104_3 ?_
        refine ex_if0 oq_X11_measure_46 (t := 59) rfl rfl (fun (c111 : q.toInt < 0) => ?_) (fun (c111 : ¬ (q.toInt < 0)) => ?_)
        · refine ex_ic oq_X11_measure_59 (m := (-1)) (by decide) (fun x112 hx112 => ?_)
          exact ex_reti oq_X11_measure_60 rfl (hQ x112 h0 hT (pp_fr0 (by decide +kernel) hP Fh0) Fh0 (by omega))
        · refine ex_il oq_X11_measure_49 gL104_3 ?_
          refine ex_ic oq_X11_measure_50 (m := 4) (by decide) (fun x113 hx113 => ?_)
          refine ex_if oq_X11_measure_51 (t := 59) rfl rfl (fun (c114 : x113.toInt ≤ q.toInt) => ?_) (fun (c114 : ¬ (x113.toInt ≤ q.toInt)) => ?_)
          · refine ex_ic oq_X11_measure_59 (m := (-1)) (by decide) (fun x115 hx115 => ?_)
            exact ex_reti oq_X11_measure_60 rfl (hQ x115 h0 hT (pp_fr0 (by decide +kernel) hP Fh0) Fh0 (by omega))
          · refine ex_ilw oq_X11_measure_54 gL104_6 ?_
            refine ex_if0 oq_X11_measure_56 (t := 61) rfl rfl (fun (c116 : ¬ x103.toInt = 0) => ?_) (fun (c116 : ¬ (¬ x103.toInt = 0)) => ?_)
            · refine ex_al oq_X11_measure_61 gL104_0 ?_
              refine ex_gf oq_X11_measure_62 hT (k := 0) (d := 11) rfl rfl (ri_ref (k := 0) (k' := 86) (d := 11) (f := 12) hT rfl rfl rfl (by decide) (ri_uniq (by decide +kernel))) ?_
              refine ex_il oq_X11_measure_65 gL104_1 ?_
              refine ex_il oq_X11_measure_66 gL104_2 ?_
              refine ex_il oq_X11_measure_67 gL104_3 ?_
              refine ex_ilw oq_X11_measure_68 gL104_4 ?_
              refine ex_ilw oq_X11_measure_70 gL104_5 ?_
              refine ex_cv oq_X11_measure_72 (by decide) hT (k := 86) (d := 3) (as := [cv_i g, cv_i w, cv_i q, cv_i lo, cv_i hi]) (stk := []) rfl rfl rfl rfl rfl rfl ⟨rfl, rfl⟩ (R := fun o => ∃ (x : Int32) (hb : cv_H), o = (some (cv_i x), hb) ∧ cw_T G hb ∧ cw_Fr cw_Ds cw_sh kk_X3_add.2.2.2.2.2.1 h0 hb ∧ (c = 40 ∧ x.toInt = -1 ∧ ri_at hb 86 9 = c ∨ ¬ c = 40 ∧ x.toInt = c ∧ ri_at hb 86 9 = c + 1)) (ct_add hT hc g w q lo hi (by omega) (fun x hb b1 b2 b3 => ⟨x, hb, rfl, b1, b2, b3⟩)) (fun o ho => ?_)
              obtain ⟨x117, h118, rfl, Th118, Ch118, dx117⟩ := ho
              show cw_X _ _ _ _ _ [cv_i x117] h118
              have Fh118 : cw_Fr cw_Ds cw_sh kk_X11_measure.2.2.2.2.2.1 h0 h118 := cw_Fr_tr Fh0 (cw_Fr_mono (by decide +kernel) Ch118)
              exact ex_reti oq_X11_measure_75 rfl (hQ x117 h118 Th118 (pp_fr0 (by decide +kernel) hP Fh118) Fh118 (by omega))
            · replace c116 : x103.toInt = 0 := by omega
              refine ex_ic oq_X11_measure_59 (m := (-1)) (by decide) (fun x119 hx119 => ?_)
              exact ex_reti oq_X11_measure_60 rfl (hQ x119 h0 hT (pp_fr0 (by decide +kernel) hP Fh0) Fh0 (by omega))
  · refine ex_ilw oq_X11_measure_8 rfl ?_
    refine ex_ilw oq_X11_measure_10 rfl ?_
    refine ex_if oq_X11_measure_12 (t := 27) rfl rfl (fun (c120 : hi.toInt < lo.toInt) => ?_) (fun (c120 : ¬ (hi.toInt < lo.toInt)) => ?_)
    · refine ex_ic oq_X11_measure_27 (m := 0) (by decide) (fun x121 hx121 => ?_)
      refine ex_iswA oq_X11_measure_28 (fun L122 gL122_6 kL122 => ?_)
      have gL122_0 : cv_get L122 0 = some (cv_r 0) := kL122 0 _ (by decide) (fun q => absurd q (by decide)) rfl
      have gL122_1 : cv_get L122 1 = some (cv_i g) := kL122 1 _ (by decide) (fun q => absurd q (by decide)) rfl
      have gL122_2 : cv_get L122 2 = some (cv_i w) := kL122 2 _ (by decide) (fun q => absurd q (by decide)) rfl
      have gL122_3 : cv_get L122 3 = some (cv_i q) := kL122 3 _ (by decide) (fun q => absurd q (by decide)) rfl
      have gL122_4 : cv_get L122 4 = some (cv_i lo) := kL122 4 _ (by decide) (fun q => absurd q (by decide)) rfl
      have gL122_5 : cv_get L122 5 = some (cv_i hi) := kL122 5 _ (by decide) (fun _ => rfl) rfl
      refine ex_al oq_X11_measure_30 gL122_0 ?_
      refine ex_il oq_X11_measure_31 gL122_1 ?_
      refine ex_cv oq_X11_measure_32 (by decide) hT (k := 0) (d := 11) (as := [cv_i g]) (stk := []) rfl rfl rfl rfl rfl rfl ⟨rfl, rfl⟩ (R := fun o => ∃ x : Int32, o = (some (cv_i x), h0) ∧ (x.toInt = 1 ∧ (0 ≤ g.toInt ∧ g.toInt < gN) ∨ x.toInt = 0 ∧ ¬ (0 ≤ g.toInt ∧ g.toInt < gN))) (ct_isGate hT hp4 hp2 hg g (fun x q => ⟨x, rfl, q⟩)) (fun o ho => ?_)
      obtain ⟨x123, rfl, dx123⟩ := ho
      show cw_X _ _ _ _ _ [cv_i x123] h0
      refine ex_if0 oq_X11_measure_35 (t := 59) rfl rfl (fun (c124 : x123.toInt = 0) => ?_) (fun (c124 : ¬ (x123.toInt = 0)) => ?_)
      · replace dx123 := bit_n dx123 c124
        refine ex_ic oq_X11_measure_59 (m := (-1)) (by decide) (fun x125 hx125 => ?_)
        exact ex_reti oq_X11_measure_60 rfl (hQ x125 h0 hT (pp_fr0 (by decide +kernel) hP Fh0) Fh0 (by omega))
      · replace c124 : ¬ x123.toInt = 0 := by omega
        replace dx123 := bit_y dx123 c124
        refine ex_il oq_X11_measure_38 gL122_2 ?_
        refine ex_cs oq_X11_measure_39 (by decide) (as := [cv_i w]) (stk := []) rfl rfl rfl ⟨rfl, rfl⟩ (R := fun o => ∃ x : Int32, o = (some (cv_i x), h0) ∧ (x.toInt = 1 ∧ (0 ≤ w.toInt ∧ w.toInt < 2000) ∨ x.toInt = 0 ∧ ¬ (0 ≤ w.toInt ∧ w.toInt < 2000))) (ct_isWeek  w (fun x q => ⟨x, rfl, q⟩)) (fun o ho => ?_)
        obtain ⟨x126, rfl, dx126⟩ := ho
        show cw_X _ _ _ _ _ [cv_i x126] h0
        refine ex_if0 oq_X11_measure_42 (t := 59) rfl rfl (fun (c127 : x126.toInt = 0) => ?_) (fun (c127 : ¬ (x126.toInt = 0)) => ?_)
        · replace dx126 := bit_n dx126 c127
          refine ex_ic oq_X11_measure_59 (m := (-1)) (by decide) (fun x128 hx128 => ?_)
          exact ex_reti oq_X11_measure_60 rfl (hQ x128 h0 hT (pp_fr0 (by decide +kernel) hP Fh0) Fh0 (by omega))
        · replace c127 : ¬ x126.toInt = 0 := by omega
          replace dx126 := bit_y dx126 c127
          refine ex_il oq_X11_measure_45 gL122_3 ?_
          refine ex_if0 oq_X11_measure_46 (t := 59) rfl rfl (fun (c129 : q.toInt < 0) => ?_) (fun (c129 : ¬ (q.toInt < 0)) => ?_)
          · refine ex_ic oq_X11_measure_59 (m := (-1)) (by decide) (fun x130 hx130 => ?_)
            exact ex_reti oq_X11_measure_60 rfl (hQ x130 h0 hT (pp_fr0 (by decide +kernel) hP Fh0) Fh0 (by omega))
          · refine ex_il oq_X11_measure_49 gL122_3 ?_
            refine ex_ic oq_X11_measure_50 (m := 4) (by decide) (fun x131 hx131 => ?_)
            refine ex_if oq_X11_measure_51 (t := 59) rfl rfl (fun (c132 : x131.toInt ≤ q.toInt) => ?_) (fun (c132 : ¬ (x131.toInt ≤ q.toInt)) => ?_)
            · refine ex_ic oq_X11_measure_59 (m := (-1)) (by decide) (fun x133 hx133 => ?_)
              exact ex_reti oq_X11_measure_60 rfl (hQ x133 h0 hT (pp_fr0 (by decide +kernel) hP Fh0) Fh0 (by omega))
            · refine ex_ilw oq_X11_measure_54 gL122_6 ?_
              refine ex_if0 oq_X11_measure_56 (t := 61) rfl rfl (fun (c134 : ¬ x121.toInt = 0) => ?_) (fun (c134 : ¬ (¬ x121.toInt = 0)) => ?_)
              · refine ex_al oq_X11_measure_61 gL122_0 ?_
                refine ex_gf oq_X11_measure_62 hT (k := 0) (d := 11) rfl rfl (ri_ref (k := 0) (k' := 86) (d := 11) (f := 12) hT rfl rfl rfl (by decide) (ri_uniq (by decide +kernel))) ?_
                refine ex_il oq_X11_measure_65 gL122_1 ?_
                refine ex_il oq_X11_measure_66 gL122_2 ?_
                refine ex_il oq_X11_measure_67 gL122_3 ?_
                refine ex_ilw oq_X11_measure_68 gL122_4 ?_
                refine ex_ilw oq_X11_measure_70 gL122_5 ?_
                refine ex_cv oq_X11_measure_72 (by decide) hT (k := 86) (d := 3) (as := [cv_i g, cv_i w, cv_i q, cv_i lo, cv_i hi]) (stk := []) rfl rfl rfl rfl rfl rfl ⟨rfl, rfl⟩ (R := fun o => ∃ (x : Int32) (hb : cv_H), o = (some (cv_i x), hb) ∧ cw_T G hb ∧ cw_Fr cw_Ds cw_sh kk_X3_add.2.2.2.2.2.1 h0 hb ∧ (c = 40 ∧ x.toInt = -1 ∧ ri_at hb 86 9 = c ∨ ¬ c = 40 ∧ x.toInt = c ∧ ri_at hb 86 9 = c + 1)) (ct_add hT hc g w q lo hi (by omega) (fun x hb b1 b2 b3 => ⟨x, hb, rfl, b1, b2, b3⟩)) (fun o ho => ?_)
                obtain ⟨x135, h136, rfl, Th136, Ch136, dx135⟩ := ho
                show cw_X _ _ _ _ _ [cv_i x135] h136
                have Fh136 : cw_Fr cw_Ds cw_sh kk_X11_measure.2.2.2.2.2.1 h0 h136 := cw_Fr_tr Fh0 (cw_Fr_mono (by decide +kernel) Ch136)
                exact ex_reti oq_X11_measure_75 rfl (hQ x135 h136 Th136 (pp_fr0 (by decide +kernel) hP Fh136) Fh136 (by omega))
              · replace c134 : x121.toInt = 0 := by omega
                refine ex_ic oq_X11_measure_59 (m := (-1)) (by decide) (fun x137 hx137 => ?_)
                exact ex_reti oq_X11_measure_60 rfl (hQ x137 h0 hT (pp_fr0 (by decide +kernel) hP Fh0) Fh0 (by omega))
    · refine ex_ilw oq_X11_measure_15 rfl ?_
      refine ex_ldcw oq_X11_measure_17 (m := 9999999) (by decide) (fun x138 hx138 => ?_)
      refine ex_if oq_X11_measure_20 (t := 27) rfl rfl (fun (c139 : x138.toInt < hi.toInt) => ?_) (fun (c139 : ¬ (x138.toInt < hi.toInt)) => ?_)
      · refine ex_ic oq_X11_measure_27 (m := 0) (by decide) (fun x140 hx140 => ?_)
        refine ex_iswA oq_X11_measure_28 (fun L141 gL141_6 kL141 => ?_)
        have gL141_0 : cv_get L141 0 = some (cv_r 0) := kL141 0 _ (by decide) (fun q => absurd q (by decide)) rfl
        have gL141_1 : cv_get L141 1 = some (cv_i g) := kL141 1 _ (by decide) (fun q => absurd q (by decide)) rfl
        have gL141_2 : cv_get L141 2 = some (cv_i w) := kL141 2 _ (by decide) (fun q => absurd q (by decide)) rfl
        have gL141_3 : cv_get L141 3 = some (cv_i q) := kL141 3 _ (by decide) (fun q => absurd q (by decide)) rfl
        have gL141_4 : cv_get L141 4 = some (cv_i lo) := kL141 4 _ (by decide) (fun q => absurd q (by decide)) rfl
        have gL141_5 : cv_get L141 5 = some (cv_i hi) := kL141 5 _ (by decide) (fun _ => rfl) rfl
        refine ex_al oq_X11_measure_30 gL141_0 ?_
        refine ex_il oq_X11_measure_31 gL141_1 ?_
        refine ex_cv oq_X11_measure_32 (by decide) hT (k := 0) (d := 11) (as := [cv_i g]) (stk := []) rfl rfl rfl rfl rfl rfl ⟨rfl, rfl⟩ (R := fun o => ∃ x : Int32, o = (some (cv_i x), h0) ∧ (x.toInt = 1 ∧ (0 ≤ g.toInt ∧ g.toInt < gN) ∨ x.toInt = 0 ∧ ¬ (0 ≤ g.toInt ∧ g.toInt < gN))) (ct_isGate hT hp4 hp2 hg g (fun x q => ⟨x, rfl, q⟩)) (fun o ho => ?_)
        obtain ⟨x142, rfl, dx142⟩ := ho
        show cw_X _ _ _ _ _ [cv_i x142] h0
        refine ex_if0 oq_X11_measure_35 (t := 59) rfl rfl (fun (c143 : x142.toInt = 0) => ?_) (fun (c143 : ¬ (x142.toInt = 0)) => ?_)
        · replace dx142 := bit_n dx142 c143
          refine ex_ic oq_X11_measure_59 (m := (-1)) (by decide) (fun x144 hx144 => ?_)
          exact ex_reti oq_X11_measure_60 rfl (hQ x144 h0 hT (pp_fr0 (by decide +kernel) hP Fh0) Fh0 (by omega))
        · replace c143 : ¬ x142.toInt = 0 := by omega
          replace dx142 := bit_y dx142 c143
          refine ex_il oq_X11_measure_38 gL141_2 ?_
          refine ex_cs oq_X11_measure_39 (by decide) (as := [cv_i w]) (stk := []) rfl rfl rfl ⟨rfl, rfl⟩ (R := fun o => ∃ x : Int32, o = (some (cv_i x), h0) ∧ (x.toInt = 1 ∧ (0 ≤ w.toInt ∧ w.toInt < 2000) ∨ x.toInt = 0 ∧ ¬ (0 ≤ w.toInt ∧ w.toInt < 2000))) (ct_isWeek  w (fun x q => ⟨x, rfl, q⟩)) (fun o ho => ?_)
          obtain ⟨x145, rfl, dx145⟩ := ho
          show cw_X _ _ _ _ _ [cv_i x145] h0
          refine ex_if0 oq_X11_measure_42 (t := 59) rfl rfl (fun (c146 : x145.toInt = 0) => ?_) (fun (c146 : ¬ (x145.toInt = 0)) => ?_)
          · replace dx145 := bit_n dx145 c146
            refine ex_ic oq_X11_measure_59 (m := (-1)) (by decide) (fun x147 hx147 => ?_)
            exact ex_reti oq_X11_measure_60 rfl (hQ x147 h0 hT (pp_fr0 (by decide +kernel) hP Fh0) Fh0 (by omega))
          · replace c146 : ¬ x145.toInt = 0 := by omega
            replace dx145 := bit_y dx145 c146
            refine ex_il oq_X11_measure_45 gL141_3 ?_
            refine ex_if0 oq_X11_measure_46 (t := 59) rfl rfl (fun (c148 : q.toInt < 0) => ?_) (fun (c148 : ¬ (q.toInt < 0)) => ?_)
            · refine ex_ic oq_X11_measure_59 (m := (-1)) (by decide) (fun x149 hx149 => ?_)
              exact ex_reti oq_X11_measure_60 rfl (hQ x149 h0 hT (pp_fr0 (by decide +kernel) hP Fh0) Fh0 (by omega))
            · refine ex_il oq_X11_measure_49 gL141_3 ?_
              refine ex_ic oq_X11_measure_50 (m := 4) (by decide) (fun x150 hx150 => ?_)
              refine ex_if oq_X11_measure_51 (t := 59) rfl rfl (fun (c151 : x150.toInt ≤ q.toInt) => ?_) (fun (c151 : ¬ (x150.toInt ≤ q.toInt)) => ?_)
              · refine ex_ic oq_X11_measure_59 (m := (-1)) (by decide) (fun x152 hx152 => ?_)
                exact ex_reti oq_X11_measure_60 rfl (hQ x152 h0 hT (pp_fr0 (by decide +kernel) hP Fh0) Fh0 (by omega))
              · refine ex_ilw oq_X11_measure_54 gL141_6 ?_
                refine ex_if0 oq_X11_measure_56 (t := 61) rfl rfl (fun (c153 : ¬ x140.toInt = 0) => ?_) (fun (c153 : ¬ (¬ x140.toInt = 0)) => ?_)
                · refine ex_al oq_X11_measure_61 gL141_0 ?_
                  refine ex_gf oq_X11_measure_62 hT (k := 0) (d := 11) rfl rfl (ri_ref (k := 0) (k' := 86) (d := 11) (f := 12) hT rfl rfl rfl (by decide) (ri_uniq (by decide +kernel))) ?_
                  refine ex_il oq_X11_measure_65 gL141_1 ?_
                  refine ex_il oq_X11_measure_66 gL141_2 ?_
                  refine ex_il oq_X11_measure_67 gL141_3 ?_
                  refine ex_ilw oq_X11_measure_68 gL141_4 ?_
                  refine ex_ilw oq_X11_measure_70 gL141_5 ?_
                  refine ex_cv oq_X11_measure_72 (by decide) hT (k := 86) (d := 3) (as := [cv_i g, cv_i w, cv_i q, cv_i lo, cv_i hi]) (stk := []) rfl rfl rfl rfl rfl rfl ⟨rfl, rfl⟩ (R := fun o => ∃ (x : Int32) (hb : cv_H), o = (some (cv_i x), hb) ∧ cw_T G hb ∧ cw_Fr cw_Ds cw_sh kk_X3_add.2.2.2.2.2.1 h0 hb ∧ (c = 40 ∧ x.toInt = -1 ∧ ri_at hb 86 9 = c ∨ ¬ c = 40 ∧ x.toInt = c ∧ ri_at hb 86 9 = c + 1)) (ct_add hT hc g w q lo hi (by omega) (fun x hb b1 b2 b3 => ⟨x, hb, rfl, b1, b2, b3⟩)) (fun o ho => ?_)
                  obtain ⟨x154, h155, rfl, Th155, Ch155, dx154⟩ := ho
                  show cw_X _ _ _ _ _ [cv_i x154] h155
                  have Fh155 : cw_Fr cw_Ds cw_sh kk_X11_measure.2.2.2.2.2.1 h0 h155 := cw_Fr_tr Fh0 (cw_Fr_mono (by decide +kernel) Ch155)
                  exact ex_reti oq_X11_measure_75 rfl (hQ x154 h155 Th155 (pp_fr0 (by decide +kernel) hP Fh155) Fh155 (by omega))
                · replace c153 : x140.toInt = 0 := by omega
                  refine ex_ic oq_X11_measure_59 (m := (-1)) (by decide) (fun x156 hx156 => ?_)
                  exact ex_reti oq_X11_measure_60 rfl (hQ x156 h0 hT (pp_fr0 (by decide +kernel) hP Fh0) Fh0 (by omega))
      · refine ex_ic oq_X11_measure_23 (m := 1) (by decide) (fun x157 hx157 => ?_)
        refine ex_go oq_X11_measure_24 (t := 28) rfl rfl ?_
        refine ex_iswA oq_X11_measure_28 (fun L158 gL158_6 kL158 => ?_)
        have gL158_0 : cv_get L158 0 = some (cv_r 0) := kL158 0 _ (by decide) (fun q => absurd q (by decide)) rfl
        have gL158_1 : cv_get L158 1 = some (cv_i g) := kL158 1 _ (by decide) (fun q => absurd q (by decide)) rfl
        have gL158_2 : cv_get L158 2 = some (cv_i w) := kL158 2 _ (by decide) (fun q => absurd q (by decide)) rfl
        have gL158_3 : cv_get L158 3 = some (cv_i q) := kL158 3 _ (by decide) (fun q => absurd q (by decide)) rfl
        have gL158_4 : cv_get L158 4 = some (cv_i lo) := kL158 4 _ (by decide) (fun q => absurd q (by decide)) rfl
        have gL158_5 : cv_get L158 5 = some (cv_i hi) := kL158 5 _ (by decide) (fun _ => rfl) rfl
        refine ex_al oq_X11_measure_30 gL158_0 ?_
        refine ex_il oq_X11_measure_31 gL158_1 ?_
        refine ex_cv oq_X11_measure_32 (by decide) hT (k := 0) (d := 11) (as := [cv_i g]) (stk := []) rfl rfl rfl rfl rfl rfl ⟨rfl, rfl⟩ (R := fun o => ∃ x : Int32, o = (some (cv_i x), h0) ∧ (x.toInt = 1 ∧ (0 ≤ g.toInt ∧ g.toInt < gN) ∨ x.toInt = 0 ∧ ¬ (0 ≤ g.toInt ∧ g.toInt < gN))) (ct_isGate hT hp4 hp2 hg g (fun x q => ⟨x, rfl, q⟩)) (fun o ho => ?_)
        obtain ⟨x159, rfl, dx159⟩ := ho
        show cw_X _ _ _ _ _ [cv_i x159] h0
        refine ex_if0 oq_X11_measure_35 (t := 59) rfl rfl (fun (c160 : x159.toInt = 0) => ?_) (fun (c160 : ¬ (x159.toInt = 0)) => ?_)
        · replace dx159 := bit_n dx159 c160
          refine ex_ic oq_X11_measure_59 (m := (-1)) (by decide) (fun x161 hx161 => ?_)
          exact ex_reti oq_X11_measure_60 rfl (hQ x161 h0 hT (pp_fr0 (by decide +kernel) hP Fh0) Fh0 (by omega))
        · replace c160 : ¬ x159.toInt = 0 := by omega
          replace dx159 := bit_y dx159 c160
          refine ex_il oq_X11_measure_38 gL158_2 ?_
          refine ex_cs oq_X11_measure_39 (by decide) (as := [cv_i w]) (stk := []) rfl rfl rfl ⟨rfl, rfl⟩ (R := fun o => ∃ x : Int32, o = (some (cv_i x), h0) ∧ (x.toInt = 1 ∧ (0 ≤ w.toInt ∧ w.toInt < 2000) ∨ x.toInt = 0 ∧ ¬ (0 ≤ w.toInt ∧ w.toInt < 2000))) (ct_isWeek  w (fun x q => ⟨x, rfl, q⟩)) (fun o ho => ?_)
          obtain ⟨x162, rfl, dx162⟩ := ho
          show cw_X _ _ _ _ _ [cv_i x162] h0
          refine ex_if0 oq_X11_measure_42 (t := 59) rfl rfl (fun (c163 : x162.toInt = 0) => ?_) (fun (c163 : ¬ (x162.toInt = 0)) => ?_)
          · replace dx162 := bit_n dx162 c163
            refine ex_ic oq_X11_measure_59 (m := (-1)) (by decide) (fun x164 hx164 => ?_)
            exact ex_reti oq_X11_measure_60 rfl (hQ x164 h0 hT (pp_fr0 (by decide +kernel) hP Fh0) Fh0 (by omega))
          · replace c163 : ¬ x162.toInt = 0 := by omega
            replace dx162 := bit_y dx162 c163
            refine ex_il oq_X11_measure_45 gL158_3 ?_
            refine ex_if0 oq_X11_measure_46 (t := 59) rfl rfl (fun (c165 : q.toInt < 0) => ?_) (fun (c165 : ¬ (q.toInt < 0)) => ?_)
            · refine ex_ic oq_X11_measure_59 (m := (-1)) (by decide) (fun x166 hx166 => ?_)
              exact ex_reti oq_X11_measure_60 rfl (hQ x166 h0 hT (pp_fr0 (by decide +kernel) hP Fh0) Fh0 (by omega))
            · refine ex_il oq_X11_measure_49 gL158_3 ?_
              refine ex_ic oq_X11_measure_50 (m := 4) (by decide) (fun x167 hx167 => ?_)
              refine ex_if oq_X11_measure_51 (t := 59) rfl rfl (fun (c168 : x167.toInt ≤ q.toInt) => ?_) (fun (c168 : ¬ (x167.toInt ≤ q.toInt)) => ?_)
              · refine ex_ic oq_X11_measure_59 (m := (-1)) (by decide) (fun x169 hx169 => ?_)
                exact ex_reti oq_X11_measure_60 rfl (hQ x169 h0 hT (pp_fr0 (by decide +kernel) hP Fh0) Fh0 (by omega))
              · refine ex_ilw oq_X11_measure_54 gL158_6 ?_
                refine ex_if0 oq_X11_measure_56 (t := 61) rfl rfl (fun (c170 : ¬ x157.toInt = 0) => ?_) (fun (c170 : ¬ (¬ x157.toInt = 0)) => ?_)
                · refine ex_al oq_X11_measure_61 gL158_0 ?_
                  refine ex_gf oq_X11_measure_62 hT (k := 0) (d := 11) rfl rfl (ri_ref (k := 0) (k' := 86) (d := 11) (f := 12) hT rfl rfl rfl (by decide) (ri_uniq (by decide +kernel))) ?_
                  refine ex_il oq_X11_measure_65 gL158_1 ?_
                  refine ex_il oq_X11_measure_66 gL158_2 ?_
                  refine ex_il oq_X11_measure_67 gL158_3 ?_
                  refine ex_ilw oq_X11_measure_68 gL158_4 ?_
                  refine ex_ilw oq_X11_measure_70 gL158_5 ?_
                  refine ex_cv oq_X11_measure_72 (by decide) hT (k := 86) (d := 3) (as := [cv_i g, cv_i w, cv_i q, cv_i lo, cv_i hi]) (stk := []) rfl rfl rfl rfl rfl rfl ⟨rfl, rfl⟩ (R := fun o => ∃ (x : Int32) (hb : cv_H), o = (some (cv_i x), hb) ∧ cw_T G hb ∧ cw_Fr cw_Ds cw_sh kk_X3_add.2.2.2.2.2.1 h0 hb ∧ (c = 40 ∧ x.toInt = -1 ∧ ri_at hb 86 9 = c ∨ ¬ c = 40 ∧ x.toInt = c ∧ ri_at hb 86 9 = c + 1)) (ct_add hT hc g w q lo hi (by omega) (fun x hb b1 b2 b3 => ⟨x, hb, rfl, b1, b2, b3⟩)) (fun o ho => ?_)
                  obtain ⟨x171, h172, rfl, Th172, Ch172, dx171⟩ := ho
                  show cw_X _ _ _ _ _ [cv_i x171] h172
                  have Fh172 : cw_Fr cw_Ds cw_sh kk_X11_measure.2.2.2.2.2.1 h0 h172 := cw_Fr_tr Fh0 (cw_Fr_mono (by decide +kernel) Ch172)
                  exact ex_reti oq_X11_measure_75 rfl (hQ x171 h172 Th172 (pp_fr0 (by decide +kernel) hP Fh172) Fh172 (by omega))
                · replace c170 : x157.toInt = 0 := by omega
                  refine ex_ic oq_X11_measure_59 (m := (-1)) (by decide) (fun x173 hx173 => ?_)
                  exact ex_reti oq_X11_measure_60 rfl (hQ x173 h0 hT (pp_fr0 (by decide +kernel) hP Fh0) Fh0 (by omega))
set_option maxHeartbeats 8000000 in
theorem rf_measure {h0 : cv_H} (hT : cw_T G h0) {gN c : Int} (hg : ri_at h0 111 12 = gN) (hc : ri_at h0 111 52 = c) (g w q lo hi : Int32) (hQ : ∀ (x : Int32) h', cw_T G h' → cw_Fr cw_Ds cw_sh kk_X12_measure.2.2.2.2.2.1 h0 h' → ((c = 40 ∨ ¬ ((0 ≤ g.toInt ∧ g.toInt < gN) ∧ (0 ≤ w.toInt ∧ w.toInt < 2000) ∧ (0 ≤ q.toInt ∧ q.toInt < 4) ∧ -9999999 ≤ lo.toInt ∧ lo.toInt ≤ hi.toInt ∧ hi.toInt ≤ 9999999)) ∧ x.toInt = -1 ∧ ri_at h' 111 52 = c ∨ (¬ c = 40 ∧ ((0 ≤ g.toInt ∧ g.toInt < gN) ∧ (0 ≤ w.toInt ∧ w.toInt < 2000) ∧ (0 ≤ q.toInt ∧ q.toInt < 4) ∧ -9999999 ≤ lo.toInt ∧ lo.toInt ≤ hi.toInt ∧ hi.toInt ≤ 9999999)) ∧ x.toInt = c ∧ ri_at h' 111 52 = c + 1) → Q (some (cv_i x), h')) : cw_X X 238 Q 0 (cv_ent 0 [cv_r 111, cv_i g, cv_i w, cv_i q, cv_i lo, cv_i hi]) [] h0 := by
  have Fh0 : cw_Fr cw_Ds cw_sh kk_X12_measure.2.2.2.2.2.1 h0 h0 := cw_Fr_refl
  refine ex_al oq_X12_measure_0 rfl ?_
  refine ex_ic oq_X12_measure_1 (m := 0) (by decide) (fun x101 hx101 => ?_)
  refine ex_pfi oq_X12_measure_2 hT (k := 111) (d := 12) rfl rfl rfl (cw_i32 _).1 (cw_i32 _).2 (fun h102 Th102 wh102 => ?_)
  have Fh102 : cw_Fr cw_Ds cw_sh kk_X12_measure.2.2.2.2.2.1 h0 h102 := cw_Fr_tr Fh0 (cw_Fr_wrf wh102 (k := 111) (d := 12) rfl rfl (by decide +kernel))
  have eh102_111_52 : ri_at h102 111 52 = c := (ri_ne wh102 (.inr (by decide))).trans hc
  have eh102_111_12 : ri_at h102 111 12 = gN := (ri_ne wh102 (.inr (by decide))).trans hg
  refine ex_al oq_X12_measure_5 rfl ?_
  obtain ⟨x103, ax103, rx103, lx103, ux103⟩ := fi_measures Th102
  refine ex_gf oq_X12_measure_6 Th102 (k := 111) (d := 12) rfl rfl ax103 ?_
  have rx103 := (rx103.symm.trans eh102_111_52 : x103.toInt = c)
  refine ex_bi oq_X12_measure_9 (m := 40) (by decide) (fun x104 hx104 => ?_)
  refine ex_if oq_X12_measure_11 (t := 69) rfl rfl (fun (c105 : x103.toInt = x104.toInt) => ?_) (fun (c105 : ¬ (x103.toInt = x104.toInt)) => ?_)
  · refine ex_ic oq_X12_measure_69 (m := (-1)) (by decide) (fun x106 hx106 => ?_)
    exact ex_reti oq_X12_measure_70 rfl (hQ x106 h102 Th102 Fh102 (by omega))
  · refine ex_al oq_X12_measure_14 rfl ?_
    refine ex_il oq_X12_measure_15 rfl ?_
    refine ex_cv oq_X12_measure_16 (by decide) Th102 (k := 111) (d := 12) (as := [cv_i g]) (stk := []) rfl rfl rfl rfl rfl rfl ⟨rfl, rfl⟩ (R := fun o => ∃ x : Int32, o = (some (cv_i x), h102) ∧ (x.toInt = 1 ∧ (0 ≤ g.toInt ∧ g.toInt < gN) ∨ x.toInt = 0 ∧ ¬ (0 ≤ g.toInt ∧ g.toInt < gN))) (rt_isGate Th102 (by omega) g (fun x q => ⟨x, rfl, q⟩)) (fun o ho => ?_)
    obtain ⟨x107, rfl, dx107⟩ := ho
    show cw_X _ _ _ _ _ [cv_i x107] h102
    refine ex_if0 oq_X12_measure_19 (t := 69) rfl rfl (fun (c108 : x107.toInt = 0) => ?_) (fun (c108 : ¬ (x107.toInt = 0)) => ?_)
    · replace dx107 := bit_n dx107 c108
      refine ex_ic oq_X12_measure_69 (m := (-1)) (by decide) (fun x109 hx109 => ?_)
      exact ex_reti oq_X12_measure_70 rfl (hQ x109 h102 Th102 Fh102 (by omega))
    · replace c108 : ¬ x107.toInt = 0 := by omega
      replace dx107 := bit_y dx107 c108
      refine ex_il oq_X12_measure_22 rfl ?_
      refine ex_ic oq_X12_measure_23 (m := 0) (by decide) (fun x110 hx110 => ?_)
      refine ex_si oq_X12_measure_24 (m := 1999) (by decide) (fun x111 hx111 => ?_)
      refine ex_cs oq_X12_measure_27 (by decide) (as := [cv_i w, cv_i x110, cv_i x111]) (stk := []) rfl rfl rfl ⟨rfl, rfl⟩ (R := fun o => ∃ x : Int32, o = (some (cv_i x), h102) ∧ (x.toInt = 1 ∧ x110.toInt ≤ w.toInt ∧ w.toInt ≤ x111.toInt ∨ x.toInt = 0 ∧ (w.toInt < x110.toInt ∨ x111.toInt < w.toInt))) (rt_isIn w x110 x111 (fun x q => ⟨x, rfl, q⟩)) (fun o ho => ?_)
      obtain ⟨x112, rfl, dx112⟩ := ho
      show cw_X _ _ _ _ _ [cv_i x112] h102
      refine ex_if0 oq_X12_measure_30 (t := 69) rfl rfl (fun (c113 : x112.toInt = 0) => ?_) (fun (c113 : ¬ (x112.toInt = 0)) => ?_)
      · refine ex_ic oq_X12_measure_69 (m := (-1)) (by decide) (fun x114 hx114 => ?_)
        exact ex_reti oq_X12_measure_70 rfl (hQ x114 h102 Th102 Fh102 (by omega))
      · replace c113 : ¬ x112.toInt = 0 := by omega
        refine ex_il oq_X12_measure_33 rfl ?_
        refine ex_ic oq_X12_measure_34 (m := 0) (by decide) (fun x115 hx115 => ?_)
        refine ex_ic oq_X12_measure_35 (m := 3) (by decide) (fun x116 hx116 => ?_)
        refine ex_cs oq_X12_measure_36 (by decide) (as := [cv_i q, cv_i x115, cv_i x116]) (stk := []) rfl rfl rfl ⟨rfl, rfl⟩ (R := fun o => ∃ x : Int32, o = (some (cv_i x), h102) ∧ (x.toInt = 1 ∧ x115.toInt ≤ q.toInt ∧ q.toInt ≤ x116.toInt ∨ x.toInt = 0 ∧ (q.toInt < x115.toInt ∨ x116.toInt < q.toInt))) (rt_isIn q x115 x116 (fun x q => ⟨x, rfl, q⟩)) (fun o ho => ?_)
        obtain ⟨x117, rfl, dx117⟩ := ho
        show cw_X _ _ _ _ _ [cv_i x117] h102
        refine ex_if0 oq_X12_measure_39 (t := 69) rfl rfl (fun (c118 : x117.toInt = 0) => ?_) (fun (c118 : ¬ (x117.toInt = 0)) => ?_)
        · refine ex_ic oq_X12_measure_69 (m := (-1)) (by decide) (fun x119 hx119 => ?_)
          exact ex_reti oq_X12_measure_70 rfl (hQ x119 h102 Th102 Fh102 (by omega))
        · replace c118 : ¬ x117.toInt = 0 := by omega
          refine ex_ilw oq_X12_measure_42 rfl ?_
          refine ex_ldcw oq_X12_measure_44 (m := (-9999999)) (by decide) (fun x120 hx120 => ?_)
          refine ex_ldcw oq_X12_measure_47 (m := 9999999) (by decide) (fun x121 hx121 => ?_)
          refine ex_cs oq_X12_measure_50 (by decide) (as := [cv_i lo, cv_i x120, cv_i x121]) (stk := []) rfl rfl rfl ⟨rfl, rfl⟩ (R := fun o => ∃ x : Int32, o = (some (cv_i x), h102) ∧ (x.toInt = 1 ∧ x120.toInt ≤ lo.toInt ∧ lo.toInt ≤ x121.toInt ∨ x.toInt = 0 ∧ (lo.toInt < x120.toInt ∨ x121.toInt < lo.toInt))) (rt_isIn lo x120 x121 (fun x q => ⟨x, rfl, q⟩)) (fun o ho => ?_)
          obtain ⟨x122, rfl, dx122⟩ := ho
          show cw_X _ _ _ _ _ [cv_i x122] h102
          refine ex_if0 oq_X12_measure_53 (t := 69) rfl rfl (fun (c123 : x122.toInt = 0) => ?_) (fun (c123 : ¬ (x122.toInt = 0)) => ?_)
          · refine ex_ic oq_X12_measure_69 (m := (-1)) (by decide) (fun x124 hx124 => ?_)
            exact ex_reti oq_X12_measure_70 rfl (hQ x124 h102 Th102 Fh102 (by omega))
          · replace c123 : ¬ x122.toInt = 0 := by omega
            refine ex_ilw oq_X12_measure_56 rfl ?_
            refine ex_ilw oq_X12_measure_58 rfl ?_
            refine ex_ldcw oq_X12_measure_60 (m := 9999999) (by decide) (fun x125 hx125 => ?_)
            refine ex_cs oq_X12_measure_63 (by decide) (as := [cv_i hi, cv_i lo, cv_i x125]) (stk := []) rfl rfl rfl ⟨rfl, rfl⟩ (R := fun o => ∃ x : Int32, o = (some (cv_i x), h102) ∧ (x.toInt = 1 ∧ lo.toInt ≤ hi.toInt ∧ hi.toInt ≤ x125.toInt ∨ x.toInt = 0 ∧ (hi.toInt < lo.toInt ∨ x125.toInt < hi.toInt))) (rt_isIn hi lo x125 (fun x q => ⟨x, rfl, q⟩)) (fun o ho => ?_)
            obtain ⟨x126, rfl, dx126⟩ := ho
            show cw_X _ _ _ _ _ [cv_i x126] h102
            refine ex_if0 oq_X12_measure_66 (t := 71) rfl rfl (fun (c127 : ¬ x126.toInt = 0) => ?_) (fun (c127 : ¬ (¬ x126.toInt = 0)) => ?_)
            · refine ex_al oq_X12_measure_71 rfl ?_
              refine ex_gf oq_X12_measure_72 Th102 (k := 111) (d := 12) rfl rfl (fr_readGate Th102) ?_
              refine ex_al oq_X12_measure_75 rfl ?_
              obtain ⟨x128, ax128, rx128, lx128, ux128⟩ := fi_measures Th102
              refine ex_gf oq_X12_measure_76 Th102 (k := 111) (d := 12) rfl rfl ax128 ?_
              have rx128 := (rx128.symm.trans eh102_111_52 : x128.toInt = c)
              refine ex_il oq_X12_measure_79 rfl ?_
              refine ex_iw1 oq_X12_measure_80 Th102 (k := 136) (d := 75) (j := x128.toInt.toNat) rfl rfl (by omega) (by omega) ⟨(cw_i32 _).1, (cw_i32 _).2⟩ (fun h129 Th129 wh129 => ?_)
              have Fh129 : cw_Fr cw_Ds cw_sh kk_X12_measure.2.2.2.2.2.1 h0 h129 := cw_Fr_tr Fh102 (cw_Fr_wrr wh129 (k := 136) (d := 75) rfl rfl (by decide +kernel))
              have eh129_111_52 : ri_at h129 111 52 = c := (ri_ne wh129 (.inl (by decide))).trans eh102_111_52
              clear eh102_111_52
              have eh129_111_12 : ri_at h129 111 12 = gN := (ri_ne wh129 (.inl (by decide))).trans eh102_111_12
              clear eh102_111_12
              refine ex_al oq_X12_measure_81 rfl ?_
              refine ex_gf oq_X12_measure_82 Th129 (k := 111) (d := 12) rfl rfl (fr_readWeek Th129) ?_
              refine ex_al oq_X12_measure_85 rfl ?_
              obtain ⟨x130, ax130, rx130, lx130, ux130⟩ := fi_measures Th129
              refine ex_gf oq_X12_measure_86 Th129 (k := 111) (d := 12) rfl rfl ax130 ?_
              have rx130 := (rx130.symm.trans eh129_111_52 : x130.toInt = c)
              refine ex_il oq_X12_measure_89 rfl ?_
              refine ex_iw1 oq_X12_measure_90 Th129 (k := 137) (d := 76) (j := x130.toInt.toNat) rfl rfl (by omega) (by omega) ⟨by omega, by omega⟩ (fun h131 Th131 wh131 => ?_)
              have Fh131 : cw_Fr cw_Ds cw_sh kk_X12_measure.2.2.2.2.2.1 h0 h131 := cw_Fr_tr Fh129 (cw_Fr_wrr wh131 (k := 137) (d := 76) rfl rfl (by decide +kernel))
              have eh131_111_52 : ri_at h131 111 52 = c := (ri_ne wh131 (.inl (by decide))).trans eh129_111_52
              clear eh129_111_52
              have eh131_111_12 : ri_at h131 111 12 = gN := (ri_ne wh131 (.inl (by decide))).trans eh129_111_12
              clear eh129_111_12
              refine ex_al oq_X12_measure_91 rfl ?_
              refine ex_gf oq_X12_measure_92 Th131 (k := 111) (d := 12) rfl rfl (fr_readWhat Th131) ?_
              refine ex_al oq_X12_measure_95 rfl ?_
              obtain ⟨x132, ax132, rx132, lx132, ux132⟩ := fi_measures Th131
              refine ex_gf oq_X12_measure_96 Th131 (k := 111) (d := 12) rfl rfl ax132 ?_
              have rx132 := (rx132.symm.trans eh131_111_52 : x132.toInt = c)
              refine ex_il oq_X12_measure_99 rfl ?_
              refine ex_iw1 oq_X12_measure_100 Th131 (k := 138) (d := 77) (j := x132.toInt.toNat) rfl rfl (by omega) (by omega) ⟨by omega, by omega⟩ (fun h133 Th133 wh133 => ?_)
              have Fh133 : cw_Fr cw_Ds cw_sh kk_X12_measure.2.2.2.2.2.1 h0 h133 := cw_Fr_tr Fh131 (cw_Fr_wrr wh133 (k := 138) (d := 77) rfl rfl (by decide +kernel))
              have eh133_111_52 : ri_at h133 111 52 = c := (ri_ne wh133 (.inl (by decide))).trans eh131_111_52
              clear eh131_111_52
              have eh133_111_12 : ri_at h133 111 12 = gN := (ri_ne wh133 (.inl (by decide))).trans eh131_111_12
              clear eh131_111_12
              refine ex_al oq_X12_measure_101 rfl ?_
              refine ex_gf oq_X12_measure_102 Th133 (k := 111) (d := 12) rfl rfl (fr_readLow Th133) ?_
              refine ex_al oq_X12_measure_105 rfl ?_
              obtain ⟨x134, ax134, rx134, lx134, ux134⟩ := fi_measures Th133
              refine ex_gf oq_X12_measure_106 Th133 (k := 111) (d := 12) rfl rfl ax134 ?_
              have rx134 := (rx134.symm.trans eh133_111_52 : x134.toInt = c)
              refine ex_ilw oq_X12_measure_109 rfl ?_
              refine ex_iw1 oq_X12_measure_111 Th133 (k := 139) (d := 78) (j := x134.toInt.toNat) rfl rfl (by omega) (by omega) ⟨(cw_i32 _).1, (cw_i32 _).2⟩ (fun h135 Th135 wh135 => ?_)
              have Fh135 : cw_Fr cw_Ds cw_sh kk_X12_measure.2.2.2.2.2.1 h0 h135 := cw_Fr_tr Fh133 (cw_Fr_wrr wh135 (k := 139) (d := 78) rfl rfl (by decide +kernel))
              have eh135_111_52 : ri_at h135 111 52 = c := (ri_ne wh135 (.inl (by decide))).trans eh133_111_52
              clear eh133_111_52
              have eh135_111_12 : ri_at h135 111 12 = gN := (ri_ne wh135 (.inl (by decide))).trans eh133_111_12
              clear eh133_111_12
              refine ex_al oq_X12_measure_112 rfl ?_
              refine ex_gf oq_X12_measure_113 Th135 (k := 111) (d := 12) rfl rfl (fr_readHigh Th135) ?_
              refine ex_al oq_X12_measure_116 rfl ?_
              obtain ⟨x136, ax136, rx136, lx136, ux136⟩ := fi_measures Th135
              refine ex_gf oq_X12_measure_117 Th135 (k := 111) (d := 12) rfl rfl ax136 ?_
              have rx136 := (rx136.symm.trans eh135_111_52 : x136.toInt = c)
              refine ex_ilw oq_X12_measure_120 rfl ?_
              refine ex_iw1 oq_X12_measure_122 Th135 (k := 140) (d := 79) (j := x136.toInt.toNat) rfl rfl (by omega) (by omega) ⟨(cw_i32 _).1, (cw_i32 _).2⟩ (fun h137 Th137 wh137 => ?_)
              have Fh137 : cw_Fr cw_Ds cw_sh kk_X12_measure.2.2.2.2.2.1 h0 h137 := cw_Fr_tr Fh135 (cw_Fr_wrr wh137 (k := 140) (d := 79) rfl rfl (by decide +kernel))
              have eh137_111_52 : ri_at h137 111 52 = c := (ri_ne wh137 (.inl (by decide))).trans eh135_111_52
              clear eh135_111_52
              have eh137_111_12 : ri_at h137 111 12 = gN := (ri_ne wh137 (.inl (by decide))).trans eh135_111_12
              clear eh135_111_12
              refine ex_al oq_X12_measure_123 rfl ?_
              refine ex_dup oq_X12_measure_124 rfl ?_
              obtain ⟨x138, ax138, rx138, lx138, ux138⟩ := fi_measures Th137
              refine ex_gf oq_X12_measure_125 Th137 (k := 111) (d := 12) rfl rfl ax138 ?_
              have rx138 := (rx138.symm.trans eh137_111_52 : x138.toInt = c)
              refine ex_ic oq_X12_measure_128 (m := 1) (by decide) (fun x139 hx139 => ?_)
              refine ex_add oq_X12_measure_129 (by omega) (fun x140 hx140 => ?_)
              refine ex_pfi oq_X12_measure_130 Th137 (k := 111) (d := 12) rfl rfl rfl (by omega) (by omega) (fun h141 Th141 wh141 => ?_)
              have Fh141 : cw_Fr cw_Ds cw_sh kk_X12_measure.2.2.2.2.2.1 h0 h141 := cw_Fr_tr Fh137 (cw_Fr_wrf wh141 (k := 111) (d := 12) rfl rfl (by decide +kernel))
              have eh141_111_52 : ri_at h141 111 52 = x140.toInt := ri_self wh141
              have eh141_111_12 : ri_at h141 111 12 = gN := (ri_ne wh141 (.inr (by decide))).trans eh137_111_12
              clear eh137_111_12
              refine ex_al oq_X12_measure_133 rfl ?_
              obtain ⟨x142, ax142, rx142, lx142, ux142⟩ := fi_measures Th141
              refine ex_gf oq_X12_measure_134 Th141 (k := 111) (d := 12) rfl rfl ax142 ?_
              have rx142 := (rx142.symm.trans eh141_111_52 : x142.toInt = x140.toInt)
              refine ex_ic oq_X12_measure_137 (m := 1) (by decide) (fun x143 hx143 => ?_)
              refine ex_sub oq_X12_measure_138 (by omega) (fun x144 hx144 => ?_)
              exact ex_reti oq_X12_measure_139 rfl (hQ x144 h141 Th141 Fh141 (by omega))
            · replace c127 : x126.toInt = 0 := by omega
              refine ex_ic oq_X12_measure_69 (m := (-1)) (by decide) (fun x145 hx145 => ?_)
              exact ex_reti oq_X12_measure_70 rfl (hQ x145 h102 Th102 Fh102 (by omega))
theorem rt_measure {h0 : cv_H} (hX : cw_Xok X) (hT : cw_T G h0) (hP : cw_PP G h0) {gN c : Int} (hg : ri_at h0 111 12 = gN) (hc : ri_at h0 111 52 = c) (g w q lo hi : Int32) (hQ : ∀ (x : Int32) h', cw_T G h' → cw_PP G h' → cw_Fr cw_Ds cw_sh kk_X12_measure.2.2.2.2.2.1 h0 h' → ((c = 40 ∨ ¬ ((0 ≤ g.toInt ∧ g.toInt < gN) ∧ (0 ≤ w.toInt ∧ w.toInt < 2000) ∧ (0 ≤ q.toInt ∧ q.toInt < 4) ∧ -9999999 ≤ lo.toInt ∧ lo.toInt ≤ hi.toInt ∧ hi.toInt ≤ 9999999)) ∧ x.toInt = -1 ∧ ri_at h' 111 52 = c ∨ (¬ c = 40 ∧ ((0 ≤ g.toInt ∧ g.toInt < gN) ∧ (0 ≤ w.toInt ∧ w.toInt < 2000) ∧ (0 ≤ q.toInt ∧ q.toInt < 4) ∧ -9999999 ≤ lo.toInt ∧ lo.toInt ≤ hi.toInt ∧ hi.toInt ≤ 9999999)) ∧ x.toInt = c ∧ ri_at h' 111 52 = c + 1) → Q (some (cv_i x), h')) : cw_X X 238 Q 0 (cv_ent 0 [cv_r 111, cv_i g, cv_i w, cv_i q, cv_i lo, cv_i hi]) [] h0 := by
  obtain ⟨o, h1, h2, x, h', e, a1, a2, a3⟩ := cw_X_and (cw_HX hk_X12_measure rfl hX ⟨hT, hP⟩ (av := [cv_r 111, cv_i g, cv_i w, cv_i q, cv_i lo, cv_i hi]) ⟨.inl ⟨by decide, 111, rfl, rfl⟩, ⟨_, rfl, cw_top_ok _⟩, ⟨_, rfl, cw_top_ok _⟩, ⟨_, rfl, cw_top_ok _⟩, ⟨_, rfl, cw_top_ok _⟩, ⟨_, rfl, cw_top_ok _⟩, trivial⟩ (fun t ht => absurd ht List.not_mem_nil)) (rf_measure hT hg hc g w q lo hi (Q := fun o => ∃ (x : Int32) (h' : cv_H), o = (some (cv_i x), h') ∧ cw_T G h' ∧ cw_Fr cw_Ds cw_sh kk_X12_measure.2.2.2.2.2.1 h0 h' ∧ ((c = 40 ∨ ¬ ((0 ≤ g.toInt ∧ g.toInt < gN) ∧ (0 ≤ w.toInt ∧ w.toInt < 2000) ∧ (0 ≤ q.toInt ∧ q.toInt < 4) ∧ -9999999 ≤ lo.toInt ∧ lo.toInt ≤ hi.toInt ∧ hi.toInt ≤ 9999999)) ∧ x.toInt = -1 ∧ ri_at h' 111 52 = c ∨ (¬ c = 40 ∧ ((0 ≤ g.toInt ∧ g.toInt < gN) ∧ (0 ≤ w.toInt ∧ w.toInt < 2000) ∧ (0 ≤ q.toInt ∧ q.toInt < 4) ∧ -9999999 ≤ lo.toInt ∧ lo.toInt ≤ hi.toInt ∧ hi.toInt ≤ 9999999)) ∧ x.toInt = c ∧ ri_at h' 111 52 = c + 1)) (fun x h' a b c => ⟨x, h', rfl, a, b, c⟩))
  refine ⟨o, h1, ?_⟩
  subst e
  obtain ⟨x2, h3, e, -, -, hP3, -, -⟩ := po_int h2 rfl
  cases e
  exact hQ x h' a1 hP3 a2 a3
theorem oq_X11_strike_0 : cw_ho 136 0 (.iload_n 1) 1 0 0 0 := rfl
theorem oq_X11_strike_1 : cw_ho 136 1 (.ifCond .lt 25) 3 0 0 0 := rfl
theorem oq_X11_strike_4 : cw_ho 136 4 (.iload_n 1) 1 0 0 0 := rfl
theorem oq_X11_strike_5 : cw_ho 136 5 (.aload_n 0) 1 0 0 0 := rfl
theorem oq_X11_strike_6 : cw_ho 136 6 (.getfield 73) 3 11 12 4 := rfl
theorem oq_X11_strike_9 : cw_ho 136 9 (.getfield 327) 3 3 9 0 := rfl
theorem oq_X11_strike_12 : cw_ho 136 12 (.if_icmp .ge 14) 3 0 0 0 := rfl
theorem oq_X11_strike_15 : cw_ho 136 15 (.aload_n 0) 1 0 0 0 := rfl
theorem oq_X11_strike_16 : cw_ho 136 16 (.getfield 73) 3 11 12 4 := rfl
theorem oq_X11_strike_19 : cw_ho 136 19 (.iload_n 1) 1 0 0 0 := rfl
theorem oq_X11_strike_20 : cw_ho 136 20 (.invokevirtual 328) 3 44 1 3 := rfl
theorem oq_X11_strike_23 : cw_ho 136 23 (.goto 4) 3 0 0 0 := rfl
theorem oq_X11_strike_26 : cw_ho 136 26 (.iconst (-1)) 1 0 0 0 := rfl
theorem oq_X11_strike_27 : cw_ho 136 27 (.ireturn) 1 0 0 0 := rfl
theorem ct_strike {h0 : cv_H} (hT : cw_T G h0) (hP : cw_PP G h0) {c : Int} (hc : ri_at h0 86 9 = c) (m : Int32) (hQ : ∀ (x : Int32) h', cw_T G h' → cw_PP G h' → cw_Fr cw_Ds cw_sh kk_X11_strike.2.2.2.2.2.1 h0 h' → ((c = 40 ∨ ¬ (0 ≤ m.toInt ∧ m.toInt < c)) ∧ x.toInt = -1 ∧ ri_at h' 86 9 = c ∨ (¬ c = 40 ∧ (0 ≤ m.toInt ∧ m.toInt < c)) ∧ x.toInt = c ∧ ri_at h' 86 9 = c + 1) → Q (some (cv_i x), h')) : cw_X X 136 Q 0 (cv_ent 0 [cv_r 0, cv_i m]) [] h0 := by
  have Fh0 : cw_Fr cw_Ds cw_sh kk_X11_strike.2.2.2.2.2.1 h0 h0 := cw_Fr_refl
  refine ex_il oq_X11_strike_0 rfl ?_
  refine ex_if0 oq_X11_strike_1 (t := 26) rfl rfl (fun (c101 : m.toInt < 0) => ?_) (fun (c101 : ¬ (m.toInt < 0)) => ?_)
  · refine ex_ic oq_X11_strike_26 (m := (-1)) (by decide) (fun x102 hx102 => ?_)
    exact ex_reti oq_X11_strike_27 rfl (hQ x102 h0 hT (pp_fr0 (by decide +kernel) hP Fh0) Fh0 (by omega))
  · refine ex_il oq_X11_strike_4 rfl ?_
    refine ex_al oq_X11_strike_5 rfl ?_
    refine ex_gf oq_X11_strike_6 hT (k := 0) (d := 11) rfl rfl (ri_ref (k := 0) (k' := 86) (d := 11) (f := 12) hT rfl rfl rfl (by decide) (ri_uniq (by decide +kernel))) ?_
    obtain ⟨x103, ax103, rx103, lx103, ux103⟩ := ri_fld (k := 86) (d := 3) (f := 9) hT rfl rfl rfl
    try dsimp only at lx103 ux103
    refine ex_gf oq_X11_strike_9 hT (k := 86) (d := 3) rfl rfl ax103 ?_
    have rx103 := (rx103.symm.trans hc : x103.toInt = c)
    refine ex_if oq_X11_strike_12 (t := 26) rfl rfl (fun (c104 : x103.toInt ≤ m.toInt) => ?_) (fun (c104 : ¬ (x103.toInt ≤ m.toInt)) => ?_)
    · refine ex_ic oq_X11_strike_26 (m := (-1)) (by decide) (fun x105 hx105 => ?_)
      exact ex_reti oq_X11_strike_27 rfl (hQ x105 h0 hT (pp_fr0 (by decide +kernel) hP Fh0) Fh0 (by omega))
    · refine ex_al oq_X11_strike_15 rfl ?_
      refine ex_gf oq_X11_strike_16 hT (k := 0) (d := 11) rfl rfl (ri_ref (k := 0) (k' := 86) (d := 11) (f := 12) hT rfl rfl rfl (by decide) (ri_uniq (by decide +kernel))) ?_
      refine ex_il oq_X11_strike_19 rfl ?_
      refine ex_cv oq_X11_strike_20 (by decide) hT (k := 86) (d := 3) (as := [cv_i m]) (stk := []) rfl rfl rfl rfl rfl rfl ⟨rfl, rfl⟩ (R := fun o => ∃ (x : Int32) (hb : cv_H), o = (some (cv_i x), hb) ∧ cw_T G hb ∧ cw_Fr cw_Ds cw_sh kk_X3_addStrike.2.2.2.2.2.1 h0 hb ∧ (c = 40 ∧ x.toInt = -1 ∧ ri_at hb 86 9 = c ∨ ¬ c = 40 ∧ x.toInt = c ∧ ri_at hb 86 9 = c + 1)) (ct_addStrike hT hc m (by omega) (fun x hb b1 b2 b3 => ⟨x, hb, rfl, b1, b2, b3⟩)) (fun o ho => ?_)
      obtain ⟨x106, h107, rfl, Th107, Ch107, dx106⟩ := ho
      show cw_X _ _ _ _ _ [cv_i x106] h107
      have Fh107 : cw_Fr cw_Ds cw_sh kk_X11_strike.2.2.2.2.2.1 h0 h107 := cw_Fr_tr Fh0 (cw_Fr_mono (by decide +kernel) Ch107)
      refine ex_go oq_X11_strike_23 (t := 27) rfl rfl ?_
      exact ex_reti oq_X11_strike_27 rfl (hQ x106 h107 Th107 (pp_fr0 (by decide +kernel) hP Fh107) Fh107 (by omega))
theorem rf_strike {h0 : cv_H} (hT : cw_T G h0) {c : Int} (hc : ri_at h0 111 52 = c) (m : Int32) (hQ : ∀ (x : Int32) h', cw_T G h' → cw_Fr cw_Ds cw_sh kk_X12_strike.2.2.2.2.2.1 h0 h' → ((c = 40 ∨ ¬ (0 ≤ m.toInt ∧ m.toInt < c)) ∧ x.toInt = -1 ∧ ri_at h' 111 52 = c ∨ (¬ c = 40 ∧ (0 ≤ m.toInt ∧ m.toInt < c)) ∧ x.toInt = c ∧ ri_at h' 111 52 = c + 1) → Q (some (cv_i x), h')) : cw_X X 239 Q 0 (cv_ent 0 [cv_r 111, cv_i m]) [] h0 := by
  have Fh0 : cw_Fr cw_Ds cw_sh kk_X12_strike.2.2.2.2.2.1 h0 h0 := cw_Fr_refl
  refine ex_al oq_X12_strike_0 rfl ?_
  refine ex_ic oq_X12_strike_1 (m := 0) (by decide) (fun x101 hx101 => ?_)
  refine ex_pfi oq_X12_strike_2 hT (k := 111) (d := 12) rfl rfl rfl (cw_i32 _).1 (cw_i32 _).2 (fun h102 Th102 wh102 => ?_)
  have Fh102 : cw_Fr cw_Ds cw_sh kk_X12_strike.2.2.2.2.2.1 h0 h102 := cw_Fr_tr Fh0 (cw_Fr_wrf wh102 (k := 111) (d := 12) rfl rfl (by decide +kernel))
  have eh102_111_52 : ri_at h102 111 52 = c := (ri_ne wh102 (.inr (by decide))).trans hc
  refine ex_al oq_X12_strike_5 rfl ?_
  obtain ⟨x103, ax103, rx103, lx103, ux103⟩ := fi_measures Th102
  refine ex_gf oq_X12_strike_6 Th102 (k := 111) (d := 12) rfl rfl ax103 ?_
  have rx103 := (rx103.symm.trans eh102_111_52 : x103.toInt = c)
  refine ex_bi oq_X12_strike_9 (m := 40) (by decide) (fun x104 hx104 => ?_)
  refine ex_if oq_X12_strike_11 (t := 26) rfl rfl (fun (c105 : x103.toInt = x104.toInt) => ?_) (fun (c105 : ¬ (x103.toInt = x104.toInt)) => ?_)
  · refine ex_ic oq_X12_strike_26 (m := (-1)) (by decide) (fun x106 hx106 => ?_)
    exact ex_reti oq_X12_strike_27 rfl (hQ x106 h102 Th102 Fh102 (by omega))
  · refine ex_il oq_X12_strike_14 rfl ?_
    refine ex_if0 oq_X12_strike_15 (t := 26) rfl rfl (fun (c107 : m.toInt < 0) => ?_) (fun (c107 : ¬ (m.toInt < 0)) => ?_)
    · refine ex_ic oq_X12_strike_26 (m := (-1)) (by decide) (fun x108 hx108 => ?_)
      exact ex_reti oq_X12_strike_27 rfl (hQ x108 h102 Th102 Fh102 (by omega))
    · refine ex_il oq_X12_strike_18 rfl ?_
      refine ex_al oq_X12_strike_19 rfl ?_
      obtain ⟨x109, ax109, rx109, lx109, ux109⟩ := fi_measures Th102
      refine ex_gf oq_X12_strike_20 Th102 (k := 111) (d := 12) rfl rfl ax109 ?_
      have rx109 := (rx109.symm.trans eh102_111_52 : x109.toInt = c)
      refine ex_if oq_X12_strike_23 (t := 28) rfl rfl (fun (c110 : m.toInt < x109.toInt) => ?_) (fun (c110 : ¬ (m.toInt < x109.toInt)) => ?_)
      · refine ex_al oq_X12_strike_28 rfl ?_
        refine ex_gf oq_X12_strike_29 Th102 (k := 111) (d := 12) rfl rfl (fr_readGate Th102) ?_
        refine ex_al oq_X12_strike_32 rfl ?_
        obtain ⟨x111, ax111, rx111, lx111, ux111⟩ := fi_measures Th102
        refine ex_gf oq_X12_strike_33 Th102 (k := 111) (d := 12) rfl rfl ax111 ?_
        have rx111 := (rx111.symm.trans eh102_111_52 : x111.toInt = c)
        refine ex_ic oq_X12_strike_36 (m := (-1)) (by decide) (fun x112 hx112 => ?_)
        refine ex_iw1 oq_X12_strike_37 Th102 (k := 136) (d := 75) (j := x111.toInt.toNat) rfl rfl (by omega) (by omega) ⟨(cw_i32 _).1, (cw_i32 _).2⟩ (fun h113 Th113 wh113 => ?_)
        have Fh113 : cw_Fr cw_Ds cw_sh kk_X12_strike.2.2.2.2.2.1 h0 h113 := cw_Fr_tr Fh102 (cw_Fr_wrr wh113 (k := 136) (d := 75) rfl rfl (by decide +kernel))
        have eh113_111_52 : ri_at h113 111 52 = c := (ri_ne wh113 (.inl (by decide))).trans eh102_111_52
        clear eh102_111_52
        refine ex_al oq_X12_strike_38 rfl ?_
        refine ex_gf oq_X12_strike_39 Th113 (k := 111) (d := 12) rfl rfl (fr_readWeek Th113) ?_
        refine ex_al oq_X12_strike_42 rfl ?_
        obtain ⟨x114, ax114, rx114, lx114, ux114⟩ := fi_measures Th113
        refine ex_gf oq_X12_strike_43 Th113 (k := 111) (d := 12) rfl rfl ax114 ?_
        have rx114 := (rx114.symm.trans eh113_111_52 : x114.toInt = c)
        refine ex_il oq_X12_strike_46 rfl ?_
        refine ex_iw1 oq_X12_strike_47 Th113 (k := 137) (d := 76) (j := x114.toInt.toNat) rfl rfl (by omega) (by omega) ⟨by omega, by omega⟩ (fun h115 Th115 wh115 => ?_)
        have Fh115 : cw_Fr cw_Ds cw_sh kk_X12_strike.2.2.2.2.2.1 h0 h115 := cw_Fr_tr Fh113 (cw_Fr_wrr wh115 (k := 137) (d := 76) rfl rfl (by decide +kernel))
        have eh115_111_52 : ri_at h115 111 52 = c := (ri_ne wh115 (.inl (by decide))).trans eh113_111_52
        clear eh113_111_52
        refine ex_al oq_X12_strike_48 rfl ?_
        refine ex_dup oq_X12_strike_49 rfl ?_
        obtain ⟨x116, ax116, rx116, lx116, ux116⟩ := fi_measures Th115
        refine ex_gf oq_X12_strike_50 Th115 (k := 111) (d := 12) rfl rfl ax116 ?_
        have rx116 := (rx116.symm.trans eh115_111_52 : x116.toInt = c)
        refine ex_ic oq_X12_strike_53 (m := 1) (by decide) (fun x117 hx117 => ?_)
        refine ex_add oq_X12_strike_54 (by omega) (fun x118 hx118 => ?_)
        refine ex_pfi oq_X12_strike_55 Th115 (k := 111) (d := 12) rfl rfl rfl (by omega) (by omega) (fun h119 Th119 wh119 => ?_)
        have Fh119 : cw_Fr cw_Ds cw_sh kk_X12_strike.2.2.2.2.2.1 h0 h119 := cw_Fr_tr Fh115 (cw_Fr_wrf wh119 (k := 111) (d := 12) rfl rfl (by decide +kernel))
        have eh119_111_52 : ri_at h119 111 52 = x118.toInt := ri_self wh119
        refine ex_al oq_X12_strike_58 rfl ?_
        obtain ⟨x120, ax120, rx120, lx120, ux120⟩ := fi_measures Th119
        refine ex_gf oq_X12_strike_59 Th119 (k := 111) (d := 12) rfl rfl ax120 ?_
        have rx120 := (rx120.symm.trans eh119_111_52 : x120.toInt = x118.toInt)
        refine ex_ic oq_X12_strike_62 (m := 1) (by decide) (fun x121 hx121 => ?_)
        refine ex_sub oq_X12_strike_63 (by omega) (fun x122 hx122 => ?_)
        exact ex_reti oq_X12_strike_64 rfl (hQ x122 h119 Th119 Fh119 (by omega))
      · refine ex_ic oq_X12_strike_26 (m := (-1)) (by decide) (fun x123 hx123 => ?_)
        exact ex_reti oq_X12_strike_27 rfl (hQ x123 h102 Th102 Fh102 (by omega))
theorem rt_strike {h0 : cv_H} (hX : cw_Xok X) (hT : cw_T G h0) (hP : cw_PP G h0) {c : Int} (hc : ri_at h0 111 52 = c) (m : Int32) (hQ : ∀ (x : Int32) h', cw_T G h' → cw_PP G h' → cw_Fr cw_Ds cw_sh kk_X12_strike.2.2.2.2.2.1 h0 h' → ((c = 40 ∨ ¬ (0 ≤ m.toInt ∧ m.toInt < c)) ∧ x.toInt = -1 ∧ ri_at h' 111 52 = c ∨ (¬ c = 40 ∧ (0 ≤ m.toInt ∧ m.toInt < c)) ∧ x.toInt = c ∧ ri_at h' 111 52 = c + 1) → Q (some (cv_i x), h')) : cw_X X 239 Q 0 (cv_ent 0 [cv_r 111, cv_i m]) [] h0 := by
  obtain ⟨o, h1, h2, x, h', e, a1, a2, a3⟩ := cw_X_and (cw_HX hk_X12_strike rfl hX ⟨hT, hP⟩ (av := [cv_r 111, cv_i m]) ⟨.inl ⟨by decide, 111, rfl, rfl⟩, ⟨_, rfl, cw_top_ok _⟩, trivial⟩ (fun t ht => absurd ht List.not_mem_nil)) (rf_strike hT hc m (Q := fun o => ∃ (x : Int32) (h' : cv_H), o = (some (cv_i x), h') ∧ cw_T G h' ∧ cw_Fr cw_Ds cw_sh kk_X12_strike.2.2.2.2.2.1 h0 h' ∧ ((c = 40 ∨ ¬ (0 ≤ m.toInt ∧ m.toInt < c)) ∧ x.toInt = -1 ∧ ri_at h' 111 52 = c ∨ (¬ c = 40 ∧ (0 ≤ m.toInt ∧ m.toInt < c)) ∧ x.toInt = c ∧ ri_at h' 111 52 = c + 1)) (fun x h' a b c => ⟨x, h', rfl, a, b, c⟩))
  refine ⟨o, h1, ?_⟩
  subst e
  obtain ⟨x2, h3, e, -, -, hP3, -, -⟩ := po_int h2 rfl
  cases e
  exact hQ x h' a1 hP3 a2 a3
theorem oq_X11_known_0 : cw_ho 137 0 (.iload_n 1) 1 0 0 0 := rfl
theorem oq_X11_known_1 : cw_ho 137 1 (.iconst (-1)) 1 0 0 0 := rfl
theorem oq_X11_known_2 : cw_ho 137 2 (.if_icmp .lt 14) 3 0 0 0 := rfl
theorem oq_X11_known_5 : cw_ho 137 5 (.iload_n 1) 1 0 0 0 := rfl
theorem oq_X11_known_6 : cw_ho 137 6 (.aload_n 0) 1 0 0 0 := rfl
theorem oq_X11_known_7 : cw_ho 137 7 (.getfield 73) 3 11 12 4 := rfl
theorem oq_X11_known_10 : cw_ho 137 10 (.getfield 327) 3 3 9 0 := rfl
theorem oq_X11_known_13 : cw_ho 137 13 (.if_icmp .le 5) 3 0 0 0 := rfl
theorem oq_X11_known_16 : cw_ho 137 16 (.iconst 0) 1 0 0 0 := rfl
theorem oq_X11_known_17 : cw_ho 137 17 (.ireturn) 1 0 0 0 := rfl
theorem oq_X11_known_18 : cw_ho 137 18 (.aload_n 0) 1 0 0 0 := rfl
theorem oq_X11_known_19 : cw_ho 137 19 (.getfield 73) 3 11 12 4 := rfl
theorem oq_X11_known_22 : cw_ho 137 22 (.iload_n 1) 1 0 0 0 := rfl
theorem oq_X11_known_23 : cw_ho 137 23 (.putfield 331) 3 3 10 0 := rfl
theorem oq_X11_known_26 : cw_ho 137 26 (.iconst 1) 1 0 0 0 := rfl
theorem oq_X11_known_27 : cw_ho 137 27 (.ireturn) 1 0 0 0 := rfl
theorem oq_X12_known_0 : cw_ho 240 0 (.aload_n 0) 1 0 0 0 := rfl
theorem oq_X12_known_1 : cw_ho 240 1 (.iconst 0) 1 0 0 0 := rfl
theorem oq_X12_known_2 : cw_ho 240 2 (.putfield 136) 3 12 2 0 := rfl
theorem oq_X12_known_5 : cw_ho 240 5 (.iload_n 1) 1 0 0 0 := rfl
theorem oq_X12_known_6 : cw_ho 240 6 (.iconst (-1)) 1 0 0 0 := rfl
theorem oq_X12_known_7 : cw_ho 240 7 (.aload_n 0) 1 0 0 0 := rfl
theorem oq_X12_known_8 : cw_ho 240 8 (.getfield 243) 3 12 52 0 := rfl
theorem oq_X12_known_11 : cw_ho 240 11 (.invokestatic 180) 3 156 3 0 := rfl
theorem oq_X12_known_14 : cw_ho 240 14 (.ifCond .ne 5) 3 0 0 0 := rfl
theorem oq_X12_known_17 : cw_ho 240 17 (.iconst 0) 1 0 0 0 := rfl
theorem oq_X12_known_18 : cw_ho 240 18 (.ireturn) 1 0 0 0 := rfl
theorem oq_X12_known_19 : cw_ho 240 19 (.aload_n 0) 1 0 0 0 := rfl
theorem oq_X12_known_20 : cw_ho 240 20 (.iload_n 1) 1 0 0 0 := rfl
theorem oq_X12_known_21 : cw_ho 240 21 (.putfield 88) 3 12 53 0 := rfl
theorem oq_X12_known_24 : cw_ho 240 24 (.iconst 1) 1 0 0 0 := rfl
theorem oq_X12_known_25 : cw_ho 240 25 (.ireturn) 1 0 0 0 := rfl
end TZ
