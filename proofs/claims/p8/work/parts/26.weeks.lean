/-! ===== methods walked by hand: weeks of the class, common, odds ===== -/
section SPG
variable {G : Int} {X : cv_X} {Q : cv_O → Prop}
theorem oq_X11_isAhead_0 : cw_ho 116 0 (.iload_n 0) 1 0 0 0 := rfl
theorem oq_X11_isAhead_1 : cw_ho 116 1 (.ifCond .lt 14) 3 0 0 0 := rfl
theorem oq_X11_isAhead_4 : cw_ho 116 4 (.iload_n 0) 1 0 0 0 := rfl
theorem oq_X11_isAhead_5 : cw_ho 116 5 (.sipush 520) 3 0 0 0 := rfl
theorem oq_X11_isAhead_8 : cw_ho 116 8 (.if_icmp .gt 7) 3 0 0 0 := rfl
theorem oq_X11_isAhead_11 : cw_ho 116 11 (.iconst 1) 1 0 0 0 := rfl
theorem oq_X11_isAhead_12 : cw_ho 116 12 (.goto 4) 3 0 0 0 := rfl
theorem oq_X11_isAhead_15 : cw_ho 116 15 (.iconst 0) 1 0 0 0 := rfl
theorem oq_X11_isAhead_16 : cw_ho 116 16 (.ireturn) 1 0 0 0 := rfl
theorem sp_isAhead11 {h : cv_H} (hT : cw_T G h) (n0 : Int32)  (hQ : ∀ x : Int32, x.toInt = 1 ∧ 0 ≤ n0.toInt ∧ n0.toInt ≤ 520 ∨ x.toInt = 0 ∧ ¬ (0 ≤ n0.toInt ∧ n0.toInt ≤ 520) → Q (some (cv_i x), h)) : cw_X X 116 Q 0 (cv_ent 0 [cv_i n0]) [] h := by
  refine ex_il oq_X11_isAhead_0 rfl ?_
  refine ex_if0 oq_X11_isAhead_1 (t := 15) rfl rfl (fun (c1 : n0.toInt < 0) => ?_) (fun (c1 : ¬ (n0.toInt < 0)) => ?_)
  · refine ex_ic oq_X11_isAhead_15 (m := 0) (by decide) (fun x2 hx2 => ?_)
    exact ex_retb oq_X11_isAhead_16 rfl (by omega) (by omega) (hQ x2 (by omega))
  · refine ex_il oq_X11_isAhead_4 rfl ?_
    refine ex_si oq_X11_isAhead_5 (m := 520) (by decide) (fun x3 hx3 => ?_)
    refine ex_if oq_X11_isAhead_8 (t := 15) rfl rfl (fun (c4 : x3.toInt < n0.toInt) => ?_) (fun (c4 : ¬ (x3.toInt < n0.toInt)) => ?_)
    · refine ex_ic oq_X11_isAhead_15 (m := 0) (by decide) (fun x5 hx5 => ?_)
      exact ex_retb oq_X11_isAhead_16 rfl (by omega) (by omega) (hQ x5 (by omega))
    · refine ex_ic oq_X11_isAhead_11 (m := 1) (by decide) (fun x6 hx6 => ?_)
      refine ex_go oq_X11_isAhead_12 (t := 16) rfl rfl ?_
      exact ex_retb oq_X11_isAhead_16 rfl (by omega) (by omega) (hQ x6 (by omega))
theorem oq_X11_weeks_0 : cw_ho 121 0 (.iload_n 1) 1 0 0 0 := rfl
theorem oq_X11_weeks_1 : cw_ho 121 1 (.invokestatic 227) 3 116 1 0 := rfl
theorem oq_X11_weeks_4 : cw_ho 121 4 (.ifCond .eq 15) 3 0 0 0 := rfl
theorem oq_X11_weeks_7 : cw_ho 121 7 (.aload_n 0) 1 0 0 0 := rfl
theorem oq_X11_weeks_8 : cw_ho 121 8 (.getfield 117) 3 11 8 0 := rfl
theorem oq_X11_weeks_11 : cw_ho 121 11 (.iload_n 1) 1 0 0 0 := rfl
theorem oq_X11_weeks_12 : cw_ho 121 12 (.iadd) 1 0 0 0 := rfl
theorem oq_X11_weeks_13 : cw_ho 121 13 (.sipush 2000) 3 0 0 0 := rfl
theorem oq_X11_weeks_16 : cw_ho 121 16 (.if_icmp .le 5) 3 0 0 0 := rfl
theorem oq_X11_weeks_19 : cw_ho 121 19 (.iconst (-1)) 1 0 0 0 := rfl
theorem oq_X11_weeks_20 : cw_ho 121 20 (.ireturn) 1 0 0 0 := rfl
theorem oq_X11_weeks_21 : cw_ho 121 21 (.iconst 0) 1 0 0 0 := rfl
theorem oq_X11_weeks_22 : cw_ho 121 22 (.istore_n 2) 1 0 0 0 := rfl
theorem oq_X11_weeks_23 : cw_ho 121 23 (.iload_n 2) 1 0 0 0 := rfl
theorem oq_X11_weeks_24 : cw_ho 121 24 (.aload_n 0) 1 0 0 0 := rfl
theorem oq_X11_weeks_25 : cw_ho 121 25 (.getfield 18) 3 11 2 4 := rfl
theorem oq_X11_weeks_28 : cw_ho 121 28 (.getfield 134) 3 4 9 0 := rfl
theorem oq_X11_weeks_31 : cw_ho 121 31 (.if_icmp .ge 40) 3 0 0 0 := rfl
theorem oq_X11_weeks_34 : cw_ho 121 34 (.iload_n 2) 1 0 0 0 := rfl
theorem oq_X11_weeks_35 : cw_ho 121 35 (.aload_n 0) 1 0 0 0 := rfl
theorem oq_X11_weeks_36 : cw_ho 121 36 (.getfield 50) 3 11 7 4 := rfl
theorem oq_X11_weeks_39 : cw_ho 121 39 (.arraylength) 1 0 0 0 := rfl
theorem oq_X11_weeks_40 : cw_ho 121 40 (.if_icmp .ge 31) 3 0 0 0 := rfl
theorem oq_X11_weeks_43 : cw_ho 121 43 (.aload_n 0) 1 0 0 0 := rfl
theorem oq_X11_weeks_44 : cw_ho 121 44 (.getfield 37) 3 11 5 4 := rfl
theorem oq_X11_weeks_47 : cw_ho 121 47 (.aload_n 0) 1 0 0 0 := rfl
theorem oq_X11_weeks_48 : cw_ho 121 48 (.getfield 18) 3 11 2 4 := rfl
theorem oq_X11_weeks_51 : cw_ho 121 51 (.aload_n 0) 1 0 0 0 := rfl
theorem oq_X11_weeks_52 : cw_ho 121 52 (.getfield 50) 3 11 7 4 := rfl
theorem oq_X11_weeks_55 : cw_ho 121 55 (.iload_n 2) 1 0 0 0 := rfl
theorem oq_X11_weeks_56 : cw_ho 121 56 (.aaload) 1 0 0 0 := rfl
theorem oq_X11_weeks_57 : cw_ho 121 57 (.aload_n 0) 1 0 0 0 := rfl
theorem oq_X11_weeks_58 : cw_ho 121 58 (.getfield 117) 3 11 8 0 := rfl
theorem oq_X11_weeks_61 : cw_ho 121 61 (.iload_n 1) 1 0 0 0 := rfl
theorem oq_X11_weeks_62 : cw_ho 121 62 (.invokevirtual 230) 3 32 4 2 := rfl
theorem oq_X11_weeks_65 : cw_ho 121 65 (.iinc 2 1) 3 0 0 0 := rfl
theorem oq_X11_weeks_68 : cw_ho 121 68 (.goto (-45)) 3 0 0 0 := rfl
theorem oq_X11_weeks_71 : cw_ho 121 71 (.aload_n 0) 1 0 0 0 := rfl
theorem oq_X11_weeks_72 : cw_ho 121 72 (.dup) 1 0 0 0 := rfl
theorem oq_X11_weeks_73 : cw_ho 121 73 (.getfield 117) 3 11 8 0 := rfl
theorem oq_X11_weeks_76 : cw_ho 121 76 (.iload_n 1) 1 0 0 0 := rfl
theorem oq_X11_weeks_77 : cw_ho 121 77 (.iadd) 1 0 0 0 := rfl
theorem oq_X11_weeks_78 : cw_ho 121 78 (.putfield 117) 3 11 8 0 := rfl
theorem oq_X11_weeks_81 : cw_ho 121 81 (.aload_n 0) 1 0 0 0 := rfl
theorem oq_X11_weeks_82 : cw_ho 121 82 (.getfield 117) 3 11 8 0 := rfl
theorem oq_X11_weeks_85 : cw_ho 121 85 (.ireturn) 1 0 0 0 := rfl
theorem cw_23 {h0 : cv_H} (hX : cw_Xok X) (hps : cw_Holds fk_all mt_all cw_Ds cw_sh G (cw_PP G) kk_X2_pass) (hP0 : cw_PP G h0) (n : Int32) (n0 : 0 ≤ n.toInt) (n1 : n.toInt ≤ 520) (hfin : ∀ (x : Int32) h, cw_T G h → cw_Fr cw_Ds cw_sh kk_X11_weeks.2.2.2.2.2.1 h0 h → Q (some (cv_i x), h)) : ∀ (N : Nat) (g : Int32) (h : cv_H), cw_T G h → cw_Fr cw_Ds cw_sh kk_X11_weeks.2.2.2.2.2.1 h0 h → ∀ L : cv_L, cv_get L 0 = some (cv_r 0) → cv_get L 1 = some (cv_i n) → cv_get L 2 = some (cv_i g) → 0 ≤ g.toInt ∧ g.toInt ≤ 4 → ri_at h 0 8 + n.toInt ≤ 2000 → (4 - g.toInt).toNat ≤ N → cw_X X 121 Q 23 L [] h := by
  intro N
  induction N with
  | zero =>
    intro g h Th Fh L q0 q1 q2 g0 w0 hN
    refine ex_il oq_X11_weeks_23 q2 ?_
    refine ex_al oq_X11_weeks_24 q0 ?_
    obtain ⟨k1, ak1, sk1⟩ := ri_refs (k := 0) (d := 11) (f := 2) Th rfl rfl rfl (by decide)
    refine ex_gf oq_X11_weeks_25 Th (k := 0) (d := 11) rfl rfl ak1 ?_
    obtain ⟨x2, ax2, rx2, lx2, ux2⟩ := ri_fld (k := k1) (d := 4) (f := 9) Th sk1 rfl rfl
    try dsimp only at lx2 ux2
    refine ex_gf oq_X11_weeks_28 Th (k := k1) (d := 4) sk1 rfl ax2 ?_
    refine ex_if oq_X11_weeks_31 (t := 71) rfl rfl (fun (c3 : x2.toInt ≤ g.toInt) => ?_) (fun (c3 : ¬ (x2.toInt ≤ g.toInt)) => ?_)
    · refine ex_al oq_X11_weeks_71 q0 ?_
      refine ex_dup oq_X11_weeks_72 rfl ?_
      obtain ⟨x4, ax4, rx4, lx4, ux4⟩ := ri_fld (k := 0) (d := 11) (f := 8) Th rfl rfl rfl
      try dsimp only at lx4 ux4
      refine ex_gf oq_X11_weeks_73 Th (k := 0) (d := 11) rfl rfl ax4 ?_
      refine ex_il oq_X11_weeks_76 q1 ?_
      refine ex_add oq_X11_weeks_77 (by omega) (fun x5 hx5 => ?_)
      refine ex_pfi oq_X11_weeks_78 Th (k := 0) (d := 11) rfl rfl rfl (by omega) (by omega) (fun h6 Th6 wh6 => ?_)
      have Fh6 : cw_Fr cw_Ds cw_sh kk_X11_weeks.2.2.2.2.2.1 h0 h6 := cw_Fr_tr Fh (cw_Fr_wrf wh6 (k := 0) (d := 11) rfl rfl (by decide +kernel))
      have eh6_0_8 : ri_at h6 0 8 = x5.toInt := ri_self wh6
      refine ex_al oq_X11_weeks_81 q0 ?_
      obtain ⟨x7, ax7, rx7, lx7, ux7⟩ := ri_fld (k := 0) (d := 11) (f := 8) Th6 rfl rfl rfl
      try dsimp only at lx7 ux7
      refine ex_gf oq_X11_weeks_82 Th6 (k := 0) (d := 11) rfl rfl ax7 ?_
      exact ex_reti oq_X11_weeks_85 rfl (hfin x7 h6 Th6 Fh6)
    · refine ex_il oq_X11_weeks_34 q2 ?_
      refine ex_al oq_X11_weeks_35 q0 ?_
      refine ex_gf oq_X11_weeks_36 Th (k := 0) (d := 11) rfl rfl (ri_ref (k := 0) (k' := 61) (d := 11) (f := 7) Th rfl rfl rfl (by decide) (ri_uniq (by decide +kernel))) ?_
      refine ex_lenr oq_X11_weeks_39 Th (k := 61) (d := 14) rfl rfl (by decide) (fun x8 hx8 => ?_)
      refine ex_if oq_X11_weeks_40 (t := 71) rfl rfl (fun (c9 : x8.toInt ≤ g.toInt) => ?_) (fun (c9 : ¬ (x8.toInt ≤ g.toInt)) => ?_)
      · refine ex_al oq_X11_weeks_71 q0 ?_
        refine ex_dup oq_X11_weeks_72 rfl ?_
        obtain ⟨x10, ax10, rx10, lx10, ux10⟩ := ri_fld (k := 0) (d := 11) (f := 8) Th rfl rfl rfl
        try dsimp only at lx10 ux10
        refine ex_gf oq_X11_weeks_73 Th (k := 0) (d := 11) rfl rfl ax10 ?_
        refine ex_il oq_X11_weeks_76 q1 ?_
        refine ex_add oq_X11_weeks_77 (by omega) (fun x11 hx11 => ?_)
        refine ex_pfi oq_X11_weeks_78 Th (k := 0) (d := 11) rfl rfl rfl (by omega) (by omega) (fun h12 Th12 wh12 => ?_)
        have Fh12 : cw_Fr cw_Ds cw_sh kk_X11_weeks.2.2.2.2.2.1 h0 h12 := cw_Fr_tr Fh (cw_Fr_wrf wh12 (k := 0) (d := 11) rfl rfl (by decide +kernel))
        have eh12_0_8 : ri_at h12 0 8 = x11.toInt := ri_self wh12
        refine ex_al oq_X11_weeks_81 q0 ?_
        obtain ⟨x13, ax13, rx13, lx13, ux13⟩ := ri_fld (k := 0) (d := 11) (f := 8) Th12 rfl rfl rfl
        try dsimp only at lx13 ux13
        refine ex_gf oq_X11_weeks_82 Th12 (k := 0) (d := 11) rfl rfl ax13 ?_
        exact ex_reti oq_X11_weeks_85 rfl (hfin x13 h12 Th12 Fh12)
      · refine ex_al oq_X11_weeks_43 q0 ?_
        refine ex_gf oq_X11_weeks_44 Th (k := 0) (d := 11) rfl rfl (ri_ref (k := 0) (k' := 55) (d := 11) (f := 5) Th rfl rfl rfl (by decide) (ri_uniq (by decide +kernel))) ?_
        refine ex_al oq_X11_weeks_47 q0 ?_
        obtain ⟨k14, ak14, sk14⟩ := ri_refs (k := 0) (d := 11) (f := 2) Th rfl rfl rfl (by decide)
        refine ex_gf oq_X11_weeks_48 Th (k := 0) (d := 11) rfl rfl ak14 ?_
        refine ex_al oq_X11_weeks_51 q0 ?_
        refine ex_gf oq_X11_weeks_52 Th (k := 0) (d := 11) rfl rfl (ri_ref (k := 0) (k' := 61) (d := 11) (f := 7) Th rfl rfl rfl (by decide) (ri_uniq (by decide +kernel))) ?_
        refine ex_il oq_X11_weeks_55 q2 ?_
        refine ex_aa oq_X11_weeks_56 Th (k := 61) (d := 14) (j := g.toInt.toNat) rfl rfl (by omega) (by omega) (fun k15 ak15 sk15 => ?_)
        refine ex_al oq_X11_weeks_57 q0 ?_
        obtain ⟨x16, ax16, rx16, lx16, ux16⟩ := ri_fld (k := 0) (d := 11) (f := 8) Th rfl rfl rfl
        try dsimp only at lx16 ux16
        refine ex_gf oq_X11_weeks_58 Th (k := 0) (d := 11) rfl rfl ax16 ?_
        refine ex_il oq_X11_weeks_61 q1 ?_
        have Ph : cw_PP G h := pp_fr0 (by decide +kernel) hP0 Fh
        refine ex_cv oq_X11_weeks_62 (by decide) Th (k := 55) (d := 2) (as := [cv_r k14, cv_r k15, cv_i x16, cv_i n]) (stk := []) rfl rfl rfl rfl rfl rfl ⟨rfl, rfl⟩ (cw_HX hps rfl (cw_Xok_no2 hX) ⟨Th, Ph⟩ ⟨.inl ⟨by decide, 55, rfl, rfl⟩, .inl ⟨by decide, k14, rfl, sk14⟩, .inl ⟨by decide, k15, rfl, sk15⟩, ⟨_, rfl, by show (0 : Int) ≤ _; omega, by show _ ≤ (3100 : Int); omega, cw_tg0⟩, ⟨_, rfl, by show (0 : Int) ≤ _; omega, by show _ ≤ (520 : Int); omega, cw_tg0⟩, trivial⟩ (fun t ht => absurd ht List.not_mem_nil)) (fun ox18 hox18 => ?_)
        obtain ⟨h17, rfl, Th17, Ph17, Ch17⟩ := po_non hox18 rfl
        show cw_X _ _ _ _ _ [] h17
        have Fh17 : cw_Fr cw_Ds cw_sh kk_X11_weeks.2.2.2.2.2.1 h0 h17 := cw_Fr_tr Fh (cw_Fr_mono (by decide +kernel) Ch17)
        have eh17_0_8 : ri_at h17 0 8 = ri_at h 0 8 := ri_frf Ch17 (d := 11) rfl rfl (by decide +kernel)
        refine ex_incA oq_X11_weeks_65 (v := g) (m := 1) q2 (by decide) (by omega) (fun L20 x19 hx19 gL20_2 kL20 => ?_)
        have gL20_0 : cv_get L20 0 = some (cv_r 0) := kL20 0 _ (by decide) (fun q => absurd q (by decide)) q0
        have gL20_1 : cv_get L20 1 = some (cv_i n) := kL20 1 _ (by decide) (fun _ => rfl) q1
        refine ex_go oq_X11_weeks_68 (t := 23) rfl rfl ?_
        exfalso; omega -- x19 h17 Th17 Fh17 L20 gL20_0 gL20_1 gL20_2 (by omega) (by omega) (by omega)
  | succ N ih =>
    intro g h Th Fh L q0 q1 q2 g0 w0 hN
    refine ex_il oq_X11_weeks_23 q2 ?_
    refine ex_al oq_X11_weeks_24 q0 ?_
    obtain ⟨k1, ak1, sk1⟩ := ri_refs (k := 0) (d := 11) (f := 2) Th rfl rfl rfl (by decide)
    refine ex_gf oq_X11_weeks_25 Th (k := 0) (d := 11) rfl rfl ak1 ?_
    obtain ⟨x2, ax2, rx2, lx2, ux2⟩ := ri_fld (k := k1) (d := 4) (f := 9) Th sk1 rfl rfl
    try dsimp only at lx2 ux2
    refine ex_gf oq_X11_weeks_28 Th (k := k1) (d := 4) sk1 rfl ax2 ?_
    refine ex_if oq_X11_weeks_31 (t := 71) rfl rfl (fun (c3 : x2.toInt ≤ g.toInt) => ?_) (fun (c3 : ¬ (x2.toInt ≤ g.toInt)) => ?_)
    · refine ex_al oq_X11_weeks_71 q0 ?_
      refine ex_dup oq_X11_weeks_72 rfl ?_
      obtain ⟨x4, ax4, rx4, lx4, ux4⟩ := ri_fld (k := 0) (d := 11) (f := 8) Th rfl rfl rfl
      try dsimp only at lx4 ux4
      refine ex_gf oq_X11_weeks_73 Th (k := 0) (d := 11) rfl rfl ax4 ?_
      refine ex_il oq_X11_weeks_76 q1 ?_
      refine ex_add oq_X11_weeks_77 (by omega) (fun x5 hx5 => ?_)
      refine ex_pfi oq_X11_weeks_78 Th (k := 0) (d := 11) rfl rfl rfl (by omega) (by omega) (fun h6 Th6 wh6 => ?_)
      have Fh6 : cw_Fr cw_Ds cw_sh kk_X11_weeks.2.2.2.2.2.1 h0 h6 := cw_Fr_tr Fh (cw_Fr_wrf wh6 (k := 0) (d := 11) rfl rfl (by decide +kernel))
      have eh6_0_8 : ri_at h6 0 8 = x5.toInt := ri_self wh6
      refine ex_al oq_X11_weeks_81 q0 ?_
      obtain ⟨x7, ax7, rx7, lx7, ux7⟩ := ri_fld (k := 0) (d := 11) (f := 8) Th6 rfl rfl rfl
      try dsimp only at lx7 ux7
      refine ex_gf oq_X11_weeks_82 Th6 (k := 0) (d := 11) rfl rfl ax7 ?_
      exact ex_reti oq_X11_weeks_85 rfl (hfin x7 h6 Th6 Fh6)
    · refine ex_il oq_X11_weeks_34 q2 ?_
      refine ex_al oq_X11_weeks_35 q0 ?_
      refine ex_gf oq_X11_weeks_36 Th (k := 0) (d := 11) rfl rfl (ri_ref (k := 0) (k' := 61) (d := 11) (f := 7) Th rfl rfl rfl (by decide) (ri_uniq (by decide +kernel))) ?_
      refine ex_lenr oq_X11_weeks_39 Th (k := 61) (d := 14) rfl rfl (by decide) (fun x8 hx8 => ?_)
      refine ex_if oq_X11_weeks_40 (t := 71) rfl rfl (fun (c9 : x8.toInt ≤ g.toInt) => ?_) (fun (c9 : ¬ (x8.toInt ≤ g.toInt)) => ?_)
      · refine ex_al oq_X11_weeks_71 q0 ?_
        refine ex_dup oq_X11_weeks_72 rfl ?_
        obtain ⟨x10, ax10, rx10, lx10, ux10⟩ := ri_fld (k := 0) (d := 11) (f := 8) Th rfl rfl rfl
        try dsimp only at lx10 ux10
        refine ex_gf oq_X11_weeks_73 Th (k := 0) (d := 11) rfl rfl ax10 ?_
        refine ex_il oq_X11_weeks_76 q1 ?_
        refine ex_add oq_X11_weeks_77 (by omega) (fun x11 hx11 => ?_)
        refine ex_pfi oq_X11_weeks_78 Th (k := 0) (d := 11) rfl rfl rfl (by omega) (by omega) (fun h12 Th12 wh12 => ?_)
        have Fh12 : cw_Fr cw_Ds cw_sh kk_X11_weeks.2.2.2.2.2.1 h0 h12 := cw_Fr_tr Fh (cw_Fr_wrf wh12 (k := 0) (d := 11) rfl rfl (by decide +kernel))
        have eh12_0_8 : ri_at h12 0 8 = x11.toInt := ri_self wh12
        refine ex_al oq_X11_weeks_81 q0 ?_
        obtain ⟨x13, ax13, rx13, lx13, ux13⟩ := ri_fld (k := 0) (d := 11) (f := 8) Th12 rfl rfl rfl
        try dsimp only at lx13 ux13
        refine ex_gf oq_X11_weeks_82 Th12 (k := 0) (d := 11) rfl rfl ax13 ?_
        exact ex_reti oq_X11_weeks_85 rfl (hfin x13 h12 Th12 Fh12)
      · refine ex_al oq_X11_weeks_43 q0 ?_
        refine ex_gf oq_X11_weeks_44 Th (k := 0) (d := 11) rfl rfl (ri_ref (k := 0) (k' := 55) (d := 11) (f := 5) Th rfl rfl rfl (by decide) (ri_uniq (by decide +kernel))) ?_
        refine ex_al oq_X11_weeks_47 q0 ?_
        obtain ⟨k14, ak14, sk14⟩ := ri_refs (k := 0) (d := 11) (f := 2) Th rfl rfl rfl (by decide)
        refine ex_gf oq_X11_weeks_48 Th (k := 0) (d := 11) rfl rfl ak14 ?_
        refine ex_al oq_X11_weeks_51 q0 ?_
        refine ex_gf oq_X11_weeks_52 Th (k := 0) (d := 11) rfl rfl (ri_ref (k := 0) (k' := 61) (d := 11) (f := 7) Th rfl rfl rfl (by decide) (ri_uniq (by decide +kernel))) ?_
        refine ex_il oq_X11_weeks_55 q2 ?_
        refine ex_aa oq_X11_weeks_56 Th (k := 61) (d := 14) (j := g.toInt.toNat) rfl rfl (by omega) (by omega) (fun k15 ak15 sk15 => ?_)
        refine ex_al oq_X11_weeks_57 q0 ?_
        obtain ⟨x16, ax16, rx16, lx16, ux16⟩ := ri_fld (k := 0) (d := 11) (f := 8) Th rfl rfl rfl
        try dsimp only at lx16 ux16
        refine ex_gf oq_X11_weeks_58 Th (k := 0) (d := 11) rfl rfl ax16 ?_
        refine ex_il oq_X11_weeks_61 q1 ?_
        have Ph : cw_PP G h := pp_fr0 (by decide +kernel) hP0 Fh
        refine ex_cv oq_X11_weeks_62 (by decide) Th (k := 55) (d := 2) (as := [cv_r k14, cv_r k15, cv_i x16, cv_i n]) (stk := []) rfl rfl rfl rfl rfl rfl ⟨rfl, rfl⟩ (cw_HX hps rfl (cw_Xok_no2 hX) ⟨Th, Ph⟩ ⟨.inl ⟨by decide, 55, rfl, rfl⟩, .inl ⟨by decide, k14, rfl, sk14⟩, .inl ⟨by decide, k15, rfl, sk15⟩, ⟨_, rfl, by show (0 : Int) ≤ _; omega, by show _ ≤ (3100 : Int); omega, cw_tg0⟩, ⟨_, rfl, by show (0 : Int) ≤ _; omega, by show _ ≤ (520 : Int); omega, cw_tg0⟩, trivial⟩ (fun t ht => absurd ht List.not_mem_nil)) (fun ox18 hox18 => ?_)
        obtain ⟨h17, rfl, Th17, Ph17, Ch17⟩ := po_non hox18 rfl
        show cw_X _ _ _ _ _ [] h17
        have Fh17 : cw_Fr cw_Ds cw_sh kk_X11_weeks.2.2.2.2.2.1 h0 h17 := cw_Fr_tr Fh (cw_Fr_mono (by decide +kernel) Ch17)
        have eh17_0_8 : ri_at h17 0 8 = ri_at h 0 8 := ri_frf Ch17 (d := 11) rfl rfl (by decide +kernel)
        refine ex_incA oq_X11_weeks_65 (v := g) (m := 1) q2 (by decide) (by omega) (fun L20 x19 hx19 gL20_2 kL20 => ?_)
        have gL20_0 : cv_get L20 0 = some (cv_r 0) := kL20 0 _ (by decide) (fun q => absurd q (by decide)) q0
        have gL20_1 : cv_get L20 1 = some (cv_i n) := kL20 1 _ (by decide) (fun _ => rfl) q1
        refine ex_go oq_X11_weeks_68 (t := 23) rfl rfl ?_
        exact ih x19 h17 Th17 Fh17 L20 gL20_0 gL20_1 gL20_2 (by omega) (by omega) (by omega)
theorem hk_X11_weeks (hps : cw_Holds fk_all mt_all cw_Ds cw_sh G (cw_PP G) kk_X2_pass) : cw_Holds fk_all mt_all cw_Ds cw_sh G (cw_PP G) kk_X11_weeks := by
  refine cw_XH fun X h av hX hT hP hg hfp => ?_
  match av, hg with
  | [v0, v1], ⟨h0, ⟨n, e1, rn⟩, _⟩ =>
  obtain rfl : v0 = cv_r 0 := by
    rcases h0 with ⟨-, k, rfl, hk⟩ | ⟨j, hj, -⟩
    · rw [ri_uniq (d := 11) (k := 0) (by decide +kernel) k hk]
    · omega
  subst e1
  have Fh : cw_Fr cw_Ds cw_sh kk_X11_weeks.2.2.2.2.2.1 h h := cw_Fr_refl
  refine ex_il oq_X11_weeks_0 rfl ?_
  refine ex_cs oq_X11_weeks_1 (by decide) (as := [cv_i n]) (stk := []) rfl rfl rfl ⟨rfl, rfl⟩ (R := fun o => ∃ x : Int32, o = (some (cv_i x), h) ∧ (x.toInt = 1 ∧ 0 ≤ n.toInt ∧ n.toInt ≤ 520 ∨ x.toInt = 0 ∧ ¬ (0 ≤ n.toInt ∧ n.toInt ≤ 520))) (sp_isAhead11 hT n  (fun x hx => ⟨x, rfl, hx⟩)) (fun ox501 hox501 => ?_)
  obtain ⟨x501, rfl, hx501⟩ := hox501
  show cw_X _ _ _ _ _ [cv_i x501] h
  refine ex_if0 oq_X11_weeks_4 (t := 19) rfl rfl (fun (c502 : x501.toInt = 0) => ?_) (fun (c502 : ¬ (x501.toInt = 0)) => ?_)
  · refine ex_ic oq_X11_weeks_19 (m := (-1)) (by decide) (fun x503 hx503 => ?_)
    exact ex_reti oq_X11_weeks_20 rfl ⟨⟨_, rfl, cw_top_ok _⟩, ⟨hT, pp_fr0 (by decide +kernel) hP Fh⟩, Fh, fun y hy hy0 => ⟨fun t ht => absurd ht List.not_mem_nil, fun t ht => absurd ht List.not_mem_nil⟩⟩
  · refine ex_al oq_X11_weeks_7 rfl ?_
    obtain ⟨x504, ax504, rx504, lx504, ux504⟩ := ri_fld (k := 0) (d := 11) (f := 8) hT rfl rfl rfl
    try dsimp only at lx504 ux504
    refine ex_gf oq_X11_weeks_8 hT (k := 0) (d := 11) rfl rfl ax504 ?_
    refine ex_il oq_X11_weeks_11 rfl ?_
    refine ex_add oq_X11_weeks_12 (by omega) (fun x505 hx505 => ?_)
    refine ex_si oq_X11_weeks_13 (m := 2000) (by decide) (fun x506 hx506 => ?_)
    refine ex_if oq_X11_weeks_16 (t := 21) rfl rfl (fun (c507 : x505.toInt ≤ x506.toInt) => ?_) (fun (c507 : ¬ (x505.toInt ≤ x506.toInt)) => ?_)
    · refine ex_ic oq_X11_weeks_21 (m := 0) (by decide) (fun x508 hx508 => ?_)
      refine ex_isA oq_X11_weeks_22 (fun L509 gL509_2 kL509 => ?_)
      have gL509_0 : cv_get L509 0 = some (cv_r 0) := kL509 0 _ (by decide) (fun q => absurd q (by decide)) rfl
      have gL509_1 : cv_get L509 1 = some (cv_i n) := kL509 1 _ (by decide) (fun _ => rfl) rfl
      exact cw_23 hX hps hP n (by omega) (by omega) (fun x h a1 a2 => ⟨⟨x, rfl, cw_top_ok _⟩, ⟨a1, pp_fr0 (by decide +kernel) hP a2⟩, a2, fun y hy hy0 => ⟨fun t ht => absurd ht List.not_mem_nil, fun t ht => absurd ht List.not_mem_nil⟩⟩) _ x508 h hT Fh L509 gL509_0 gL509_1 gL509_2 (by omega) (by omega) (Nat.le_refl _)
    · refine ex_ic oq_X11_weeks_19 (m := (-1)) (by decide) (fun x510 hx510 => ?_)
      exact ex_reti oq_X11_weeks_20 rfl ⟨⟨_, rfl, cw_top_ok _⟩, ⟨hT, pp_fr0 (by decide +kernel) hP Fh⟩, Fh, fun y hy hy0 => ⟨fun t ht => absurd ht List.not_mem_nil, fun t ht => absurd ht List.not_mem_nil⟩⟩
theorem rem_abs {x y : Int32} (hx : 0 ≤ x.toInt) (hy : 1 ≤ y.toInt) : 0 ≤ (x - x / y * y).toInt ∧ (x - x / y * y).toInt < y.toInt := by
  have := cw_rem_b hx hy
  omega
theorem oq_X12_common_0 : cw_ho 250 0 (.iload_n 0) 1 0 0 0 := rfl
theorem oq_X12_common_1 : cw_ho 250 1 (.istore_n 2) 1 0 0 0 := rfl
theorem oq_X12_common_2 : cw_ho 250 2 (.iload_n 1) 1 0 0 0 := rfl
theorem oq_X12_common_3 : cw_ho 250 3 (.istore_n 3) 1 0 0 0 := rfl
theorem oq_X12_common_4 : cw_ho 250 4 (.iload_n 3) 1 0 0 0 := rfl
theorem oq_X12_common_5 : cw_ho 250 5 (.ifCond .eq 16) 3 0 0 0 := rfl
theorem oq_X12_common_8 : cw_ho 250 8 (.iload_n 2) 1 0 0 0 := rfl
theorem oq_X12_common_9 : cw_ho 250 9 (.iload_n 3) 1 0 0 0 := rfl
theorem oq_X12_common_10 : cw_ho 250 10 (.irem) 1 0 0 0 := rfl
theorem oq_X12_common_11 : cw_ho 250 11 (.istore 4) 2 0 0 0 := rfl
theorem oq_X12_common_13 : cw_ho 250 13 (.iload_n 3) 1 0 0 0 := rfl
theorem oq_X12_common_14 : cw_ho 250 14 (.istore_n 2) 1 0 0 0 := rfl
theorem oq_X12_common_15 : cw_ho 250 15 (.iload 4) 2 0 0 0 := rfl
theorem oq_X12_common_17 : cw_ho 250 17 (.istore_n 3) 1 0 0 0 := rfl
theorem oq_X12_common_18 : cw_ho 250 18 (.goto (-14)) 3 0 0 0 := rfl
theorem oq_X12_common_21 : cw_ho 250 21 (.iload_n 2) 1 0 0 0 := rfl
theorem oq_X12_common_22 : cw_ho 250 22 (.ireturn) 1 0 0 0 := rfl
theorem cm_4 {h : cv_H} (hQ : ∀ x : Int32, 1 ≤ x.toInt → Q (some (cv_i x), h)) : ∀ (N : Nat) (p q : Int32) (L : cv_L), cv_get L 2 = some (cv_i p) → cv_get L 3 = some (cv_i q) → 0 ≤ p.toInt → 0 ≤ q.toInt → 1 ≤ p.toInt + q.toInt → q.toInt.toNat ≤ N → cw_X X 250 Q 4 L [] h := by
  intro N
  induction N with
  | zero =>
    intro p q L q2 q3 p0 p1 p2 hN
    refine ex_il oq_X12_common_4 q3 ?_
    refine ex_if0 oq_X12_common_5 (t := 21) rfl rfl (fun (c1 : q.toInt = 0) => ?_) (fun (c1 : ¬ (q.toInt = 0)) => ?_)
    · refine ex_il oq_X12_common_21 q2 ?_
      exact ex_reti oq_X12_common_22 rfl (hQ p (by omega))
    · refine ex_il oq_X12_common_8 q2 ?_
      refine ex_il oq_X12_common_9 q3 ?_
      refine ex_rem oq_X12_common_10 (by omega) (fun x2 hx2 => ?_)
      refine ex_iswA oq_X12_common_11 (fun L3 gL3_4 kL3 => ?_)
      have gL3_2 : cv_get L3 2 = some (cv_i p) := kL3 2 _ (by decide) (fun q => absurd q (by decide)) q2
      have gL3_3 : cv_get L3 3 = some (cv_i q) := kL3 3 _ (by decide) (fun _ => rfl) q3
      refine ex_il oq_X12_common_13 gL3_3 ?_
      refine ex_isA oq_X12_common_14 (fun L4 gL4_2 kL4 => ?_)
      have gL4_4 : cv_get L4 4 = some (cv_i x2) := kL4 4 _ (by decide) (fun q => absurd q (by decide)) gL3_4
      have gL4_3 : cv_get L4 3 = some (cv_i q) := kL4 3 _ (by decide) (fun q => absurd q (by decide)) gL3_3
      refine ex_ilw oq_X12_common_15 gL4_4 ?_
      refine ex_isA oq_X12_common_17 (fun L5 gL5_3 kL5 => ?_)
      have gL5_2 : cv_get L5 2 = some (cv_i q) := kL5 2 _ (by decide) (fun _ => rfl) gL4_2
      have gL5_4 : cv_get L5 4 = some (cv_i x2) := kL5 4 _ (by decide) (fun q => absurd q (by decide)) gL4_4
      refine ex_go oq_X12_common_18 (t := 4) rfl rfl ?_
      have hrr := rem_abs (x := p) (y := q) (by omega) (by omega)
      rw [← hx2] at hrr
      exfalso; omega -- q x2 L5 gL5_2 gL5_3 (by omega) (by omega) (by omega) (by omega)
  | succ N ih =>
    intro p q L q2 q3 p0 p1 p2 hN
    refine ex_il oq_X12_common_4 q3 ?_
    refine ex_if0 oq_X12_common_5 (t := 21) rfl rfl (fun (c1 : q.toInt = 0) => ?_) (fun (c1 : ¬ (q.toInt = 0)) => ?_)
    · refine ex_il oq_X12_common_21 q2 ?_
      exact ex_reti oq_X12_common_22 rfl (hQ p (by omega))
    · refine ex_il oq_X12_common_8 q2 ?_
      refine ex_il oq_X12_common_9 q3 ?_
      refine ex_rem oq_X12_common_10 (by omega) (fun x2 hx2 => ?_)
      refine ex_iswA oq_X12_common_11 (fun L3 gL3_4 kL3 => ?_)
      have gL3_2 : cv_get L3 2 = some (cv_i p) := kL3 2 _ (by decide) (fun q => absurd q (by decide)) q2
      have gL3_3 : cv_get L3 3 = some (cv_i q) := kL3 3 _ (by decide) (fun _ => rfl) q3
      refine ex_il oq_X12_common_13 gL3_3 ?_
      refine ex_isA oq_X12_common_14 (fun L4 gL4_2 kL4 => ?_)
      have gL4_4 : cv_get L4 4 = some (cv_i x2) := kL4 4 _ (by decide) (fun q => absurd q (by decide)) gL3_4
      have gL4_3 : cv_get L4 3 = some (cv_i q) := kL4 3 _ (by decide) (fun q => absurd q (by decide)) gL3_3
      refine ex_ilw oq_X12_common_15 gL4_4 ?_
      refine ex_isA oq_X12_common_17 (fun L5 gL5_3 kL5 => ?_)
      have gL5_2 : cv_get L5 2 = some (cv_i q) := kL5 2 _ (by decide) (fun _ => rfl) gL4_2
      have gL5_4 : cv_get L5 4 = some (cv_i x2) := kL5 4 _ (by decide) (fun q => absurd q (by decide)) gL4_4
      refine ex_go oq_X12_common_18 (t := 4) rfl rfl ?_
      have hrr := rem_abs (x := p) (y := q) (by omega) (by omega)
      rw [← hx2] at hrr
      exact ih q x2 L5 gL5_2 gL5_3 (by omega) (by omega) (by omega) (by omega)
theorem sp_common {h : cv_H} (p q : Int32) (p0 : 0 ≤ p.toInt) (p1 : 0 ≤ q.toInt) (p2 : 1 ≤ p.toInt + q.toInt) (hQ : ∀ x : Int32, 1 ≤ x.toInt → Q (some (cv_i x), h)) : cw_X X 250 Q 0 (cv_ent 0 [cv_i p, cv_i q]) [] h := by
  refine ex_il oq_X12_common_0 rfl ?_
  refine ex_isA oq_X12_common_1 (fun L201 gL201_2 kL201 => ?_)
  have gL201_0 : cv_get L201 0 = some (cv_i p) := kL201 0 _ (by decide) (fun q => absurd q (by decide)) rfl
  have gL201_1 : cv_get L201 1 = some (cv_i q) := kL201 1 _ (by decide) (fun _ => rfl) rfl
  refine ex_il oq_X12_common_2 gL201_1 ?_
  refine ex_isA oq_X12_common_3 (fun L202 gL202_3 kL202 => ?_)
  have gL202_2 : cv_get L202 2 = some (cv_i p) := kL202 2 _ (by decide) (fun _ => rfl) gL201_2
  have gL202_0 : cv_get L202 0 = some (cv_i p) := kL202 0 _ (by decide) (fun q => absurd q (by decide)) gL201_0
  have gL202_1 : cv_get L202 1 = some (cv_i q) := kL202 1 _ (by decide) (fun q => absurd q (by decide)) gL201_1
  exact cm_4 hQ _ p q L202 gL202_2 gL202_3 (by omega) (by omega) (by omega) (Nat.le_refl _)
end SPG
