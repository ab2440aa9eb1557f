/-! ===== methods walked by hand: first ===== -/
section SPJ
variable {G : Int} {X : cv_X} {Q : cv_O → Prop}
theorem oq_X12_sumBy_0 : cw_ho 267 0 (.iconst 0) 1 0 0 0 := rfl
theorem oq_X12_sumBy_1 : cw_ho 267 1 (.istore_n 2) 1 0 0 0 := rfl
theorem oq_X12_sumBy_2 : cw_ho 267 2 (.iload_n 2) 1 0 0 0 := rfl
theorem oq_X12_sumBy_3 : cw_ho 267 3 (.aload_n 0) 1 0 0 0 := rfl
theorem oq_X12_sumBy_4 : cw_ho 267 4 (.getfield 216) 3 12 12 0 := rfl
theorem oq_X12_sumBy_7 : cw_ho 267 7 (.if_icmp .ge 28) 3 0 0 0 := rfl
theorem oq_X12_sumBy_10 : cw_ho 267 10 (.aload_n 0) 1 0 0 0 := rfl
theorem oq_X12_sumBy_11 : cw_ho 267 11 (.getfield 124) 3 12 65 4 := rfl
theorem oq_X12_sumBy_14 : cw_ho 267 14 (.bipush 16) 2 0 0 0 := rfl
theorem oq_X12_sumBy_16 : cw_ho 267 16 (.iload_n 2) 1 0 0 0 := rfl
theorem oq_X12_sumBy_17 : cw_ho 267 17 (.imul) 1 0 0 0 := rfl
theorem oq_X12_sumBy_18 : cw_ho 267 18 (.aload_n 0) 1 0 0 0 := rfl
theorem oq_X12_sumBy_19 : cw_ho 267 19 (.getfield 69) 3 12 44 4 := rfl
theorem oq_X12_sumBy_22 : cw_ho 267 22 (.bipush 16) 2 0 0 0 := rfl
theorem oq_X12_sumBy_24 : cw_ho 267 24 (.iload_n 2) 1 0 0 0 := rfl
theorem oq_X12_sumBy_25 : cw_ho 267 25 (.imul) 1 0 0 0 := rfl
theorem oq_X12_sumBy_26 : cw_ho 267 26 (.invokestatic 236) 3 200 4 0 := rfl
theorem oq_X12_sumBy_29 : cw_ho 267 29 (.iinc 2 1) 3 0 0 0 := rfl
theorem oq_X12_sumBy_32 : cw_ho 267 32 (.goto (-30)) 3 0 0 0 := rfl
theorem oq_X12_sumBy_35 : cw_ho 267 35 (.iconst 0) 1 0 0 0 := rfl
theorem oq_X12_sumBy_36 : cw_ho 267 36 (.istore_n 2) 1 0 0 0 := rfl
theorem oq_X12_sumBy_37 : cw_ho 267 37 (.iconst 0) 1 0 0 0 := rfl
theorem oq_X12_sumBy_38 : cw_ho 267 38 (.istore_n 3) 1 0 0 0 := rfl
theorem oq_X12_sumBy_39 : cw_ho 267 39 (.iload_n 3) 1 0 0 0 := rfl
theorem oq_X12_sumBy_40 : cw_ho 267 40 (.aload_n 0) 1 0 0 0 := rfl
theorem oq_X12_sumBy_41 : cw_ho 267 41 (.getfield 216) 3 12 12 0 := rfl
theorem oq_X12_sumBy_44 : cw_ho 267 44 (.iload_n 1) 1 0 0 0 := rfl
theorem oq_X12_sumBy_45 : cw_ho 267 45 (.imul) 1 0 0 0 := rfl
theorem oq_X12_sumBy_46 : cw_ho 267 46 (.if_icmp .ge 76) 3 0 0 0 := rfl
theorem oq_X12_sumBy_49 : cw_ho 267 49 (.iload_n 3) 1 0 0 0 := rfl
theorem oq_X12_sumBy_50 : cw_ho 267 50 (.iload_n 1) 1 0 0 0 := rfl
theorem oq_X12_sumBy_51 : cw_ho 267 51 (.irem) 1 0 0 0 := rfl
theorem oq_X12_sumBy_52 : cw_ho 267 52 (.ifCond .ne 51) 3 0 0 0 := rfl
theorem oq_X12_sumBy_55 : cw_ho 267 55 (.aload_n 0) 1 0 0 0 := rfl
theorem oq_X12_sumBy_56 : cw_ho 267 56 (.getfield 118) 3 12 63 4 := rfl
theorem oq_X12_sumBy_59 : cw_ho 267 59 (.iload_n 3) 1 0 0 0 := rfl
theorem oq_X12_sumBy_60 : cw_ho 267 60 (.iload_n 1) 1 0 0 0 := rfl
theorem oq_X12_sumBy_61 : cw_ho 267 61 (.idiv) 1 0 0 0 := rfl
theorem oq_X12_sumBy_62 : cw_ho 267 62 (.iaload) 1 0 0 0 := rfl
theorem oq_X12_sumBy_63 : cw_ho 267 63 (.istore 4) 2 0 0 0 := rfl
theorem oq_X12_sumBy_65 : cw_ho 267 65 (.aload_n 0) 1 0 0 0 := rfl
theorem oq_X12_sumBy_66 : cw_ho 267 66 (.getfield 72) 3 12 45 4 := rfl
theorem oq_X12_sumBy_69 : cw_ho 267 69 (.iconst 0) 1 0 0 0 := rfl
theorem oq_X12_sumBy_70 : cw_ho 267 70 (.aload_n 0) 1 0 0 0 := rfl
theorem oq_X12_sumBy_71 : cw_ho 267 71 (.getfield 124) 3 12 65 4 := rfl
theorem oq_X12_sumBy_74 : cw_ho 267 74 (.bipush 16) 2 0 0 0 := rfl
theorem oq_X12_sumBy_76 : cw_ho 267 76 (.iload 4) 2 0 0 0 := rfl
theorem oq_X12_sumBy_78 : cw_ho 267 78 (.imul) 1 0 0 0 := rfl
theorem oq_X12_sumBy_79 : cw_ho 267 79 (.invokestatic 236) 3 200 4 0 := rfl
theorem oq_X12_sumBy_82 : cw_ho 267 82 (.aload_n 0) 1 0 0 0 := rfl
theorem oq_X12_sumBy_83 : cw_ho 267 83 (.getfield 124) 3 12 65 4 := rfl
theorem oq_X12_sumBy_86 : cw_ho 267 86 (.bipush 16) 2 0 0 0 := rfl
theorem oq_X12_sumBy_88 : cw_ho 267 88 (.iload 4) 2 0 0 0 := rfl
theorem oq_X12_sumBy_90 : cw_ho 267 90 (.imul) 1 0 0 0 := rfl
theorem oq_X12_sumBy_91 : cw_ho 267 91 (.iconst 3) 1 0 0 0 := rfl
theorem oq_X12_sumBy_92 : cw_ho 267 92 (.iadd) 1 0 0 0 := rfl
theorem oq_X12_sumBy_93 : cw_ho 267 93 (.dup2) 1 0 0 0 := rfl
theorem oq_X12_sumBy_94 : cw_ho 267 94 (.iaload) 1 0 0 0 := rfl
theorem oq_X12_sumBy_95 : cw_ho 267 95 (.aload_n 0) 1 0 0 0 := rfl
theorem oq_X12_sumBy_96 : cw_ho 267 96 (.iload 4) 2 0 0 0 := rfl
theorem oq_X12_sumBy_98 : cw_ho 267 98 (.invokevirtual 386) 3 206 1 12 := rfl
theorem oq_X12_sumBy_101 : cw_ho 267 101 (.iadd) 1 0 0 0 := rfl
theorem oq_X12_sumBy_102 : cw_ho 267 102 (.iastore) 1 0 0 0 := rfl
theorem oq_X12_sumBy_103 : cw_ho 267 103 (.iload_n 2) 1 0 0 0 := rfl
theorem oq_X12_sumBy_104 : cw_ho 267 104 (.aload_n 0) 1 0 0 0 := rfl
theorem oq_X12_sumBy_105 : cw_ho 267 105 (.aload_n 0) 1 0 0 0 := rfl
theorem oq_X12_sumBy_106 : cw_ho 267 106 (.getfield 240) 3 12 43 0 := rfl
theorem oq_X12_sumBy_109 : cw_ho 267 109 (.iload_n 3) 1 0 0 0 := rfl
theorem oq_X12_sumBy_110 : cw_ho 267 110 (.iadd) 1 0 0 0 := rfl
theorem oq_X12_sumBy_111 : cw_ho 267 111 (.invokevirtual 494) 3 266 1 12 := rfl
theorem oq_X12_sumBy_114 : cw_ho 267 114 (.iadd) 1 0 0 0 := rfl
theorem oq_X12_sumBy_115 : cw_ho 267 115 (.istore_n 2) 1 0 0 0 := rfl
theorem oq_X12_sumBy_116 : cw_ho 267 116 (.iinc 3 1) 3 0 0 0 := rfl
theorem oq_X12_sumBy_119 : cw_ho 267 119 (.goto (-80)) 3 0 0 0 := rfl
theorem oq_X12_sumBy_122 : cw_ho 267 122 (.iload_n 2) 1 0 0 0 := rfl
theorem oq_X12_sumBy_123 : cw_ho 267 123 (.ireturn) 1 0 0 0 := rfl
theorem sb_39 {h0 : cv_H} (hX : cw_Xok X) (hl5 : cw_Holds fk_all mt_all cw_Ds cw_sh G (cw_PP G) kk_X12_lays_5) (hl3 : cw_Holds fk_all mt_all cw_Ds cw_sh G (cw_PP G) kk_X12_lays_3) (hdr : cw_Holds fk_all mt_all cw_Ds cw_sh G (cw_PP G) kk_X12_dropOf) (hwa : cw_Holds fk_all mt_all cw_Ds cw_sh G (cw_PP G) kk_X12_weekOfAll) (hP0 : cw_PP G h0) (hod : od_p G h0) (t : Int32) (t0 : 1 ≤ t.toInt) (t1 : t.toInt ≤ 100) (hfin : ∀ (x : Int32) h, cw_T G h → cw_Fr cw_Ds cw_sh kk_X12_sumBy.2.2.2.2.2.1 h0 h → Q (some (cv_i x), h)) : ∀ (N : Nat) (sm k : Int32) (h : cv_H), cw_T G h → cw_Fr cw_Ds cw_sh kk_X12_sumBy.2.2.2.2.2.1 h0 h → ∀ L : cv_L, cv_get L 0 = some (cv_r 111) → cv_get L 1 = some (cv_i t) → cv_get L 2 = some (cv_i sm) → cv_get L 3 = some (cv_i k) → 0 ≤ k.toInt ∧ k.toInt ≤ 400 → (400 - k.toInt).toNat ≤ N → cw_X X 267 Q 39 L [] h := by
  intro N
  induction N with
  | zero =>
    intro sm k h Th Fh L q0 q1 q2 q3 k0 hN
    have hG := fr_G Th
    have hor : ri_at h 145 (k.toInt / t.toInt).toNat = ri_at h0 145 (k.toInt / t.toInt).toNat := ri_frr Fh (d := 84) rfl rfl (by decide +kernel)
    have hG1 : G ≤ 4 := by obtain ⟨_, _, r0, _, u0⟩ := fi_gates Th; omega
    have hGt : G * t.toInt ≤ 400 ∧ 0 ≤ G * t.toInt := by
      have a1 : G * t.toInt ≤ 4 * t.toInt := Int.mul_le_mul_of_nonneg_right hG1 (by omega)
      have a2 : 0 ≤ G * t.toInt := Int.mul_nonneg (by obtain ⟨_, _, r0, l0, _⟩ := fi_gates Th; omega) (by omega)
      omega
    have hdv : k.toInt < G * t.toInt → 0 ≤ k.toInt / t.toInt ∧ k.toInt / t.toInt < G ∧ 0 ≤ ri_at h0 145 (k.toInt / t.toInt).toNat ∧ ri_at h0 145 (k.toInt / t.toInt).toNat < G := by
      intro q
      have b1 : 0 ≤ k.toInt / t.toInt := Int.ediv_nonneg k0.1 (by omega)
      have b2 : k.toInt / t.toInt < G := Int.ediv_lt_of_lt_mul (by omega) q
      have b3 := hod.1 (k.toInt / t.toInt).toNat (by omega) (by omega)
      exact ⟨b1, b2, b3.1, b3.2⟩
    refine ex_il oq_X12_sumBy_39 q3 ?_
    refine ex_al oq_X12_sumBy_40 q0 ?_
    obtain ⟨x1, ax1, rx1, lx1, ux1⟩ := fi_gates Th
    refine ex_gf oq_X12_sumBy_41 Th (k := 111) (d := 12) rfl rfl ax1 ?_
    refine ex_il oq_X12_sumBy_44 q1 ?_
    refine ex_mul oq_X12_sumBy_45 (m := G * t.toInt) (by rw [show x1.toInt = G from by omega]) (by omega) (fun x2 hx2 => ?_)
    refine ex_if oq_X12_sumBy_46 (t := 122) rfl rfl (fun (c3 : x2.toInt ≤ k.toInt) => ?_) (fun (c3 : ¬ (x2.toInt ≤ k.toInt)) => ?_)
    · refine ex_il oq_X12_sumBy_122 q2 ?_
      exact ex_reti oq_X12_sumBy_123 rfl (hfin sm h Th Fh)
    · have hd4 := hdv (by omega)
      refine ex_il oq_X12_sumBy_49 q3 ?_
      refine ex_il oq_X12_sumBy_50 q1 ?_
      refine ex_rem oq_X12_sumBy_51 (by omega) (fun x4 hx4 => ?_)
      refine ex_if0 oq_X12_sumBy_52 (t := 103) rfl rfl (fun (c5 : ¬ x4.toInt = 0) => ?_) (fun (c5 : ¬ (¬ x4.toInt = 0)) => ?_)
      · refine ex_il oq_X12_sumBy_103 q2 ?_
        refine ex_al oq_X12_sumBy_104 q0 ?_
        refine ex_al oq_X12_sumBy_105 q0 ?_
        obtain ⟨x6, ax6, rx6, lx6, ux6⟩ := fi_week Th
        refine ex_gf oq_X12_sumBy_106 Th (k := 111) (d := 12) rfl rfl ax6 ?_
        refine ex_il oq_X12_sumBy_109 q3 ?_
        refine ex_add oq_X12_sumBy_110 (by omega) (fun x7 hx7 => ?_)
        have Ph : cw_PP G h := pp_fr0 (by decide +kernel) hP0 Fh
        refine ex_cv oq_X12_sumBy_111 (by decide) Th (k := 111) (d := 12) (as := [cv_i x7]) (stk := [cv_i sm]) rfl rfl rfl rfl rfl rfl ⟨rfl, rfl⟩ (cw_HX hwa rfl (cw_Xok_no2 hX) ⟨Th, Ph⟩ ⟨.inl ⟨by decide, 111, rfl, rfl⟩, ⟨_, rfl, by show (0 : Int) ≤ _; omega, by show _ ≤ (2400 : Int); omega, cw_tg0⟩, trivial⟩ (fun t ht => absurd ht List.not_mem_nil)) (fun ox9 hox9 => ?_)
        obtain ⟨x9, h8, rfl, rx9, Th8, Ph8, Ch8, tx9⟩ := po_int hox9 rfl
        have lx9 := rx9.1
        have ux9 := rx9.2.1
        try dsimp only at lx9 ux9
        show cw_X _ _ _ _ _ [cv_i x9, cv_i sm] h8
        have Fh8 : cw_Fr cw_Ds cw_sh kk_X12_sumBy.2.2.2.2.2.1 h0 h8 := cw_Fr_tr Fh (cw_Fr_mono (by decide +kernel) Ch8)
        have eh8_43 : ri_at h8 111 43 = ri_at h 111 43 := ri_frf Ch8 (d := 12) rfl rfl (by decide +kernel)
        refine ex_any (f := fun x y => some x) oq_X12_sumBy_114 rfl (fun x10 => ?_)
        refine ex_isA oq_X12_sumBy_115 (fun L11 gL11_2 kL11 => ?_)
        have gL11_0 : cv_get L11 0 = some (cv_r 111) := kL11 0 _ (by decide) (fun q => absurd q (by decide)) q0
        have gL11_1 : cv_get L11 1 = some (cv_i t) := kL11 1 _ (by decide) (fun _ => rfl) q1
        have gL11_3 : cv_get L11 3 = some (cv_i k) := kL11 3 _ (by decide) (fun q => absurd q (by decide)) q3
        refine ex_incA oq_X12_sumBy_116 (v := k) (m := 1) gL11_3 (by decide) (by omega) (fun L13 x12 hx12 gL13_3 kL13 => ?_)
        have gL13_2 : cv_get L13 2 = some (cv_i x10) := kL13 2 _ (by decide) (fun _ => rfl) gL11_2
        have gL13_0 : cv_get L13 0 = some (cv_r 111) := kL13 0 _ (by decide) (fun q => absurd q (by decide)) gL11_0
        have gL13_1 : cv_get L13 1 = some (cv_i t) := kL13 1 _ (by decide) (fun q => absurd q (by decide)) gL11_1
        refine ex_go oq_X12_sumBy_119 (t := 39) rfl rfl ?_
        exfalso; omega -- x10 x12 h8 Th8 Fh8 L13 gL13_0 gL13_1 gL13_2 gL13_3 (by omega) (by omega)
      · refine ex_al oq_X12_sumBy_55 q0 ?_
        refine ex_gf oq_X12_sumBy_56 Th (k := 111) (d := 12) rfl rfl (fr_order Th) ?_
        refine ex_il oq_X12_sumBy_59 q3 ?_
        refine ex_il oq_X12_sumBy_60 q1 ?_
        refine ex_div oq_X12_sumBy_61 (by omega) (by omega) (fun x14 hx14 => ?_)
        refine ex_ia1 oq_X12_sumBy_62 Th (k := 145) (d := 84) (j := (k.toInt / t.toInt).toNat) rfl rfl (by omega) (by omega) (fun x15 hx15 lx15 ux15 => ?_)
        refine ex_iswA oq_X12_sumBy_63 (fun L16 gL16_4 kL16 => ?_)
        have gL16_0 : cv_get L16 0 = some (cv_r 111) := kL16 0 _ (by decide) (fun q => absurd q (by decide)) q0
        have gL16_1 : cv_get L16 1 = some (cv_i t) := kL16 1 _ (by decide) (fun q => absurd q (by decide)) q1
        have gL16_2 : cv_get L16 2 = some (cv_i sm) := kL16 2 _ (by decide) (fun q => absurd q (by decide)) q2
        have gL16_3 : cv_get L16 3 = some (cv_i k) := kL16 3 _ (by decide) (fun _ => rfl) q3
        refine ex_al oq_X12_sumBy_65 gL16_0 ?_
        refine ex_gf oq_X12_sumBy_66 Th (k := 111) (d := 12) rfl rfl (fr_now Th) ?_
        refine ex_ic oq_X12_sumBy_69 (m := 0) (by decide) (fun x17 hx17 => ?_)
        refine ex_al oq_X12_sumBy_70 gL16_0 ?_
        refine ex_gf oq_X12_sumBy_71 Th (k := 111) (d := 12) rfl rfl (fr_tried Th) ?_
        refine ex_bi oq_X12_sumBy_74 (m := 16) (by decide) (fun x18 hx18 => ?_)
        refine ex_ilw oq_X12_sumBy_76 gL16_4 ?_
        refine ex_mul oq_X12_sumBy_78 (m := 16 * x15.toInt) (by rw [hx18]) (by omega) (fun x19 hx19 => ?_)
        have Ph : cw_PP G h := pp_fr0 (by decide +kernel) hP0 Fh
        refine ex_cs oq_X12_sumBy_79 (by decide) (as := [cv_r 131, cv_i x17, cv_r 147, cv_i x19]) (stk := []) rfl rfl rfl ⟨rfl, rfl⟩ (cw_HX hl3 rfl (cw_Xok_no2 hX) ⟨Th, Ph⟩ ⟨.inl ⟨by decide, 131, rfl, rfl⟩, ⟨_, rfl, by show (0 : Int) ≤ _; omega, by show _ ≤ (0 : Int); omega, cw_tg0⟩, .inl ⟨by decide, 147, rfl, rfl⟩, ⟨_, rfl, by show (0 : Int) ≤ _; omega, by show _ ≤ (48 : Int); omega, cw_tg0⟩, trivial⟩ (fun t ht => absurd ht List.not_mem_nil)) (fun ox21 hox21 => ?_)
        obtain ⟨h20, rfl, Th20, Ph20, Ch20⟩ := po_non hox21 rfl
        show cw_X _ _ _ _ _ [] h20
        have Fh20 : cw_Fr cw_Ds cw_sh kk_X12_sumBy.2.2.2.2.2.1 h0 h20 := cw_Fr_tr Fh (cw_Fr_mono (by decide +kernel) Ch20)
        have eh20_43 : ri_at h20 111 43 = ri_at h 111 43 := ri_frf Ch20 (d := 12) rfl rfl (by decide +kernel)
        refine ex_al oq_X12_sumBy_82 gL16_0 ?_
        refine ex_gf oq_X12_sumBy_83 Th20 (k := 111) (d := 12) rfl rfl (fr_tried Th20) ?_
        refine ex_bi oq_X12_sumBy_86 (m := 16) (by decide) (fun x22 hx22 => ?_)
        refine ex_ilw oq_X12_sumBy_88 gL16_4 ?_
        refine ex_mul oq_X12_sumBy_90 (m := 16 * x15.toInt) (by rw [hx22]) (by omega) (fun x23 hx23 => ?_)
        refine ex_ic oq_X12_sumBy_91 (m := 3) (by decide) (fun x24 hx24 => ?_)
        refine ex_add oq_X12_sumBy_92 (by omega) (fun x25 hx25 => ?_)
        refine ex_dup2 oq_X12_sumBy_93 rfl rfl ?_
        refine ex_ia1 oq_X12_sumBy_94 Th20 (k := 147) (d := 86) (j := (16 * ri_at h0 145 (k.toInt / t.toInt).toNat + 3).toNat) rfl rfl (by omega) (by omega) (fun x26 hx26 lx26 ux26 => ?_)
        refine ex_al oq_X12_sumBy_95 gL16_0 ?_
        refine ex_ilw oq_X12_sumBy_96 gL16_4 ?_
        have Ph20 : cw_PP G h20 := pp_fr0 (by decide +kernel) hP0 Fh20
        refine ex_cv oq_X12_sumBy_98 (by decide) Th20 (k := 111) (d := 12) (as := [cv_i x15]) (stk := [cv_i x26, cv_i x25, cv_r 147]) rfl rfl rfl rfl rfl rfl ⟨rfl, rfl⟩ (cw_HX hdr rfl (cw_Xok_no2 hX) ⟨Th20, Ph20⟩ ⟨.inl ⟨by decide, 111, rfl, rfl⟩, ⟨_, rfl, by show (0 : Int) ≤ _; omega, by show _ ≤ (3 : Int); omega, cw_tg2 (by omega) (by omega)⟩, trivial⟩ (fun t ht => absurd ht List.not_mem_nil)) (fun ox28 hox28 => ?_)
        obtain ⟨x28, h27, rfl, rx28, Th27, Ph27, Ch27, tx28⟩ := po_int hox28 rfl
        have lx28 := rx28.1
        have ux28 := rx28.2.1
        try dsimp only at lx28 ux28
        show cw_X _ _ _ _ _ [cv_i x28, cv_i x26, cv_i x25, cv_r 147] h27
        have Fh27 : cw_Fr cw_Ds cw_sh kk_X12_sumBy.2.2.2.2.2.1 h0 h27 := cw_Fr_tr Fh20 (cw_Fr_mono (by decide +kernel) Ch27)
        have eh27_43 : ri_at h27 111 43 = ri_at h20 111 43 := ri_frf Ch27 (d := 12) rfl rfl (by decide +kernel)
        refine ex_any (f := fun x y => some x) oq_X12_sumBy_101 rfl (fun x29 => ?_)
        refine ex_iw1 oq_X12_sumBy_102 Th27 (k := 147) (d := 86) (j := (16 * ri_at h0 145 (k.toInt / t.toInt).toNat + 3).toNat) rfl rfl (by omega) (by omega) ⟨(cw_i32 _).1, (cw_i32 _).2⟩ (fun h30 Th30 wh30 => ?_)
        have Fh30 : cw_Fr cw_Ds cw_sh kk_X12_sumBy.2.2.2.2.2.1 h0 h30 := cw_Fr_tr Fh27 (cw_Fr_wrr wh30 (k := 147) (d := 86) rfl rfl (by decide +kernel))
        have eh30_43 : ri_at h30 111 43 = ri_at h27 111 43 := ri_ne wh30 (.inl (by decide))
        refine ex_il oq_X12_sumBy_103 gL16_2 ?_
        refine ex_al oq_X12_sumBy_104 gL16_0 ?_
        refine ex_al oq_X12_sumBy_105 gL16_0 ?_
        obtain ⟨x31, ax31, rx31, lx31, ux31⟩ := fi_week Th30
        refine ex_gf oq_X12_sumBy_106 Th30 (k := 111) (d := 12) rfl rfl ax31 ?_
        refine ex_il oq_X12_sumBy_109 gL16_3 ?_
        refine ex_add oq_X12_sumBy_110 (by omega) (fun x32 hx32 => ?_)
        have Ph30 : cw_PP G h30 := pp_fr0 (by decide +kernel) hP0 Fh30
        refine ex_cv oq_X12_sumBy_111 (by decide) Th30 (k := 111) (d := 12) (as := [cv_i x32]) (stk := [cv_i sm]) rfl rfl rfl rfl rfl rfl ⟨rfl, rfl⟩ (cw_HX hwa rfl (cw_Xok_no2 hX) ⟨Th30, Ph30⟩ ⟨.inl ⟨by decide, 111, rfl, rfl⟩, ⟨_, rfl, by show (0 : Int) ≤ _; omega, by show _ ≤ (2400 : Int); omega, cw_tg0⟩, trivial⟩ (fun t ht => absurd ht List.not_mem_nil)) (fun ox34 hox34 => ?_)
        obtain ⟨x34, h33, rfl, rx34, Th33, Ph33, Ch33, tx34⟩ := po_int hox34 rfl
        have lx34 := rx34.1
        have ux34 := rx34.2.1
        try dsimp only at lx34 ux34
        show cw_X _ _ _ _ _ [cv_i x34, cv_i sm] h33
        have Fh33 : cw_Fr cw_Ds cw_sh kk_X12_sumBy.2.2.2.2.2.1 h0 h33 := cw_Fr_tr Fh30 (cw_Fr_mono (by decide +kernel) Ch33)
        have eh33_43 : ri_at h33 111 43 = ri_at h30 111 43 := ri_frf Ch33 (d := 12) rfl rfl (by decide +kernel)
        refine ex_any (f := fun x y => some x) oq_X12_sumBy_114 rfl (fun x35 => ?_)
        refine ex_isA oq_X12_sumBy_115 (fun L36 gL36_2 kL36 => ?_)
        have gL36_4 : cv_get L36 4 = some (cv_i x15) := kL36 4 _ (by decide) (fun q => absurd q (by decide)) gL16_4
        have gL36_0 : cv_get L36 0 = some (cv_r 111) := kL36 0 _ (by decide) (fun q => absurd q (by decide)) gL16_0
        have gL36_1 : cv_get L36 1 = some (cv_i t) := kL36 1 _ (by decide) (fun _ => rfl) gL16_1
        have gL36_3 : cv_get L36 3 = some (cv_i k) := kL36 3 _ (by decide) (fun q => absurd q (by decide)) gL16_3
        refine ex_incA oq_X12_sumBy_116 (v := k) (m := 1) gL36_3 (by decide) (by omega) (fun L38 x37 hx37 gL38_3 kL38 => ?_)
        have gL38_2 : cv_get L38 2 = some (cv_i x35) := kL38 2 _ (by decide) (fun _ => rfl) gL36_2
        have gL38_4 : cv_get L38 4 = some (cv_i x15) := kL38 4 _ (by decide) (fun q => absurd q (by decide)) gL36_4
        have gL38_0 : cv_get L38 0 = some (cv_r 111) := kL38 0 _ (by decide) (fun q => absurd q (by decide)) gL36_0
        have gL38_1 : cv_get L38 1 = some (cv_i t) := kL38 1 _ (by decide) (fun q => absurd q (by decide)) gL36_1
        refine ex_go oq_X12_sumBy_119 (t := 39) rfl rfl ?_
        exfalso; omega -- x35 x37 h33 Th33 Fh33 L38 gL38_0 gL38_1 gL38_2 gL38_3 (by omega) (by omega)
  | succ N ih =>
    intro sm k h Th Fh L q0 q1 q2 q3 k0 hN
    have hG := fr_G Th
    have hor : ri_at h 145 (k.toInt / t.toInt).toNat = ri_at h0 145 (k.toInt / t.toInt).toNat := ri_frr Fh (d := 84) rfl rfl (by decide +kernel)
    have hG1 : G ≤ 4 := by obtain ⟨_, _, r0, _, u0⟩ := fi_gates Th; omega
    have hGt : G * t.toInt ≤ 400 ∧ 0 ≤ G * t.toInt := by
      have a1 : G * t.toInt ≤ 4 * t.toInt := Int.mul_le_mul_of_nonneg_right hG1 (by omega)
      have a2 : 0 ≤ G * t.toInt := Int.mul_nonneg (by obtain ⟨_, _, r0, l0, _⟩ := fi_gates Th; omega) (by omega)
      omega
    have hdv : k.toInt < G * t.toInt → 0 ≤ k.toInt / t.toInt ∧ k.toInt / t.toInt < G ∧ 0 ≤ ri_at h0 145 (k.toInt / t.toInt).toNat ∧ ri_at h0 145 (k.toInt / t.toInt).toNat < G := by
      intro q
      have b1 : 0 ≤ k.toInt / t.toInt := Int.ediv_nonneg k0.1 (by omega)
      have b2 : k.toInt / t.toInt < G := Int.ediv_lt_of_lt_mul (by omega) q
      have b3 := hod.1 (k.toInt / t.toInt).toNat (by omega) (by omega)
      exact ⟨b1, b2, b3.1, b3.2⟩
    refine ex_il oq_X12_sumBy_39 q3 ?_
    refine ex_al oq_X12_sumBy_40 q0 ?_
    obtain ⟨x1, ax1, rx1, lx1, ux1⟩ := fi_gates Th
    refine ex_gf oq_X12_sumBy_41 Th (k := 111) (d := 12) rfl rfl ax1 ?_
    refine ex_il oq_X12_sumBy_44 q1 ?_
    refine ex_mul oq_X12_sumBy_45 (m := G * t.toInt) (by rw [show x1.toInt = G from by omega]) (by omega) (fun x2 hx2 => ?_)
    refine ex_if oq_X12_sumBy_46 (t := 122) rfl rfl (fun (c3 : x2.toInt ≤ k.toInt) => ?_) (fun (c3 : ¬ (x2.toInt ≤ k.toInt)) => ?_)
    · refine ex_il oq_X12_sumBy_122 q2 ?_
      exact ex_reti oq_X12_sumBy_123 rfl (hfin sm h Th Fh)
    · have hd4 := hdv (by omega)
      refine ex_il oq_X12_sumBy_49 q3 ?_
      refine ex_il oq_X12_sumBy_50 q1 ?_
      refine ex_rem oq_X12_sumBy_51 (by omega) (fun x4 hx4 => ?_)
      refine ex_if0 oq_X12_sumBy_52 (t := 103) rfl rfl (fun (c5 : ¬ x4.toInt = 0) => ?_) (fun (c5 : ¬ (¬ x4.toInt = 0)) => ?_)
      · refine ex_il oq_X12_sumBy_103 q2 ?_
        refine ex_al oq_X12_sumBy_104 q0 ?_
        refine ex_al oq_X12_sumBy_105 q0 ?_
        obtain ⟨x6, ax6, rx6, lx6, ux6⟩ := fi_week Th
        refine ex_gf oq_X12_sumBy_106 Th (k := 111) (d := 12) rfl rfl ax6 ?_
        refine ex_il oq_X12_sumBy_109 q3 ?_
        refine ex_add oq_X12_sumBy_110 (by omega) (fun x7 hx7 => ?_)
        have Ph : cw_PP G h := pp_fr0 (by decide +kernel) hP0 Fh
        refine ex_cv oq_X12_sumBy_111 (by decide) Th (k := 111) (d := 12) (as := [cv_i x7]) (stk := [cv_i sm]) rfl rfl rfl rfl rfl rfl ⟨rfl, rfl⟩ (cw_HX hwa rfl (cw_Xok_no2 hX) ⟨Th, Ph⟩ ⟨.inl ⟨by decide, 111, rfl, rfl⟩, ⟨_, rfl, by show (0 : Int) ≤ _; omega, by show _ ≤ (2400 : Int); omega, cw_tg0⟩, trivial⟩ (fun t ht => absurd ht List.not_mem_nil)) (fun ox9 hox9 => ?_)
        obtain ⟨x9, h8, rfl, rx9, Th8, Ph8, Ch8, tx9⟩ := po_int hox9 rfl
        have lx9 := rx9.1
        have ux9 := rx9.2.1
        try dsimp only at lx9 ux9
        show cw_X _ _ _ _ _ [cv_i x9, cv_i sm] h8
        have Fh8 : cw_Fr cw_Ds cw_sh kk_X12_sumBy.2.2.2.2.2.1 h0 h8 := cw_Fr_tr Fh (cw_Fr_mono (by decide +kernel) Ch8)
        have eh8_43 : ri_at h8 111 43 = ri_at h 111 43 := ri_frf Ch8 (d := 12) rfl rfl (by decide +kernel)
        refine ex_any (f := fun x y => some x) oq_X12_sumBy_114 rfl (fun x10 => ?_)
        refine ex_isA oq_X12_sumBy_115 (fun L11 gL11_2 kL11 => ?_)
        have gL11_0 : cv_get L11 0 = some (cv_r 111) := kL11 0 _ (by decide) (fun q => absurd q (by decide)) q0
        have gL11_1 : cv_get L11 1 = some (cv_i t) := kL11 1 _ (by decide) (fun _ => rfl) q1
        have gL11_3 : cv_get L11 3 = some (cv_i k) := kL11 3 _ (by decide) (fun q => absurd q (by decide)) q3
        refine ex_incA oq_X12_sumBy_116 (v := k) (m := 1) gL11_3 (by decide) (by omega) (fun L13 x12 hx12 gL13_3 kL13 => ?_)
        have gL13_2 : cv_get L13 2 = some (cv_i x10) := kL13 2 _ (by decide) (fun _ => rfl) gL11_2
        have gL13_0 : cv_get L13 0 = some (cv_r 111) := kL13 0 _ (by decide) (fun q => absurd q (by decide)) gL11_0
        have gL13_1 : cv_get L13 1 = some (cv_i t) := kL13 1 _ (by decide) (fun q => absurd q (by decide)) gL11_1
        refine ex_go oq_X12_sumBy_119 (t := 39) rfl rfl ?_
        exact ih x10 x12 h8 Th8 Fh8 L13 gL13_0 gL13_1 gL13_2 gL13_3 (by omega) (by omega)
      · refine ex_al oq_X12_sumBy_55 q0 ?_
        refine ex_gf oq_X12_sumBy_56 Th (k := 111) (d := 12) rfl rfl (fr_order Th) ?_
        refine ex_il oq_X12_sumBy_59 q3 ?_
        refine ex_il oq_X12_sumBy_60 q1 ?_
        refine ex_div oq_X12_sumBy_61 (by omega) (by omega) (fun x14 hx14 => ?_)
        refine ex_ia1 oq_X12_sumBy_62 Th (k := 145) (d := 84) (j := (k.toInt / t.toInt).toNat) rfl rfl (by omega) (by omega) (fun x15 hx15 lx15 ux15 => ?_)
        refine ex_iswA oq_X12_sumBy_63 (fun L16 gL16_4 kL16 => ?_)
        have gL16_0 : cv_get L16 0 = some (cv_r 111) := kL16 0 _ (by decide) (fun q => absurd q (by decide)) q0
        have gL16_1 : cv_get L16 1 = some (cv_i t) := kL16 1 _ (by decide) (fun q => absurd q (by decide)) q1
        have gL16_2 : cv_get L16 2 = some (cv_i sm) := kL16 2 _ (by decide) (fun q => absurd q (by decide)) q2
        have gL16_3 : cv_get L16 3 = some (cv_i k) := kL16 3 _ (by decide) (fun _ => rfl) q3
        refine ex_al oq_X12_sumBy_65 gL16_0 ?_
        refine ex_gf oq_X12_sumBy_66 Th (k := 111) (d := 12) rfl rfl (fr_now Th) ?_
        refine ex_ic oq_X12_sumBy_69 (m := 0) (by decide) (fun x17 hx17 => ?_)
        refine ex_al oq_X12_sumBy_70 gL16_0 ?_
        refine ex_gf oq_X12_sumBy_71 Th (k := 111) (d := 12) rfl rfl (fr_tried Th) ?_
        refine ex_bi oq_X12_sumBy_74 (m := 16) (by decide) (fun x18 hx18 => ?_)
        refine ex_ilw oq_X12_sumBy_76 gL16_4 ?_
        refine ex_mul oq_X12_sumBy_78 (m := 16 * x15.toInt) (by rw [hx18]) (by omega) (fun x19 hx19 => ?_)
        have Ph : cw_PP G h := pp_fr0 (by decide +kernel) hP0 Fh
        refine ex_cs oq_X12_sumBy_79 (by decide) (as := [cv_r 131, cv_i x17, cv_r 147, cv_i x19]) (stk := []) rfl rfl rfl ⟨rfl, rfl⟩ (cw_HX hl3 rfl (cw_Xok_no2 hX) ⟨Th, Ph⟩ ⟨.inl ⟨by decide, 131, rfl, rfl⟩, ⟨_, rfl, by show (0 : Int) ≤ _; omega, by show _ ≤ (0 : Int); omega, cw_tg0⟩, .inl ⟨by decide, 147, rfl, rfl⟩, ⟨_, rfl, by show (0 : Int) ≤ _; omega, by show _ ≤ (48 : Int); omega, cw_tg0⟩, trivial⟩ (fun t ht => absurd ht List.not_mem_nil)) (fun ox21 hox21 => ?_)
        obtain ⟨h20, rfl, Th20, Ph20, Ch20⟩ := po_non hox21 rfl
        show cw_X _ _ _ _ _ [] h20
        have Fh20 : cw_Fr cw_Ds cw_sh kk_X12_sumBy.2.2.2.2.2.1 h0 h20 := cw_Fr_tr Fh (cw_Fr_mono (by decide +kernel) Ch20)
        have eh20_43 : ri_at h20 111 43 = ri_at h 111 43 := ri_frf Ch20 (d := 12) rfl rfl (by decide +kernel)
        refine ex_al oq_X12_sumBy_82 gL16_0 ?_
        refine ex_gf oq_X12_sumBy_83 Th20 (k := 111) (d := 12) rfl rfl (fr_tried Th20) ?_
        refine ex_bi oq_X12_sumBy_86 (m := 16) (by decide) (fun x22 hx22 => ?_)
        refine ex_ilw oq_X12_sumBy_88 gL16_4 ?_
        refine ex_mul oq_X12_sumBy_90 (m := 16 * x15.toInt) (by rw [hx22]) (by omega) (fun x23 hx23 => ?_)
        refine ex_ic oq_X12_sumBy_91 (m := 3) (by decide) (fun x24 hx24 => ?_)
        refine ex_add oq_X12_sumBy_92 (by omega) (fun x25 hx25 => ?_)
        refine ex_dup2 oq_X12_sumBy_93 rfl rfl ?_
        refine ex_ia1 oq_X12_sumBy_94 Th20 (k := 147) (d := 86) (j := (16 * ri_at h0 145 (k.toInt / t.toInt).toNat + 3).toNat) rfl rfl (by omega) (by omega) (fun x26 hx26 lx26 ux26 => ?_)
        refine ex_al oq_X12_sumBy_95 gL16_0 ?_
        refine ex_ilw oq_X12_sumBy_96 gL16_4 ?_
        have Ph20 : cw_PP G h20 := pp_fr0 (by decide +kernel) hP0 Fh20
        refine ex_cv oq_X12_sumBy_98 (by decide) Th20 (k := 111) (d := 12) (as := [cv_i x15]) (stk := [cv_i x26, cv_i x25, cv_r 147]) rfl rfl rfl rfl rfl rfl ⟨rfl, rfl⟩ (cw_HX hdr rfl (cw_Xok_no2 hX) ⟨Th20, Ph20⟩ ⟨.inl ⟨by decide, 111, rfl, rfl⟩, ⟨_, rfl, by show (0 : Int) ≤ _; omega, by show _ ≤ (3 : Int); omega, cw_tg2 (by omega) (by omega)⟩, trivial⟩ (fun t ht => absurd ht List.not_mem_nil)) (fun ox28 hox28 => ?_)
        obtain ⟨x28, h27, rfl, rx28, Th27, Ph27, Ch27, tx28⟩ := po_int hox28 rfl
        have lx28 := rx28.1
        have ux28 := rx28.2.1
        try dsimp only at lx28 ux28
        show cw_X _ _ _ _ _ [cv_i x28, cv_i x26, cv_i x25, cv_r 147] h27
        have Fh27 : cw_Fr cw_Ds cw_sh kk_X12_sumBy.2.2.2.2.2.1 h0 h27 := cw_Fr_tr Fh20 (cw_Fr_mono (by decide +kernel) Ch27)
        have eh27_43 : ri_at h27 111 43 = ri_at h20 111 43 := ri_frf Ch27 (d := 12) rfl rfl (by decide +kernel)
        refine ex_any (f := fun x y => some x) oq_X12_sumBy_101 rfl (fun x29 => ?_)
        refine ex_iw1 oq_X12_sumBy_102 Th27 (k := 147) (d := 86) (j := (16 * ri_at h0 145 (k.toInt / t.toInt).toNat + 3).toNat) rfl rfl (by omega) (by omega) ⟨(cw_i32 _).1, (cw_i32 _).2⟩ (fun h30 Th30 wh30 => ?_)
        have Fh30 : cw_Fr cw_Ds cw_sh kk_X12_sumBy.2.2.2.2.2.1 h0 h30 := cw_Fr_tr Fh27 (cw_Fr_wrr wh30 (k := 147) (d := 86) rfl rfl (by decide +kernel))
        have eh30_43 : ri_at h30 111 43 = ri_at h27 111 43 := ri_ne wh30 (.inl (by decide))
        refine ex_il oq_X12_sumBy_103 gL16_2 ?_
        refine ex_al oq_X12_sumBy_104 gL16_0 ?_
        refine ex_al oq_X12_sumBy_105 gL16_0 ?_
        obtain ⟨x31, ax31, rx31, lx31, ux31⟩ := fi_week Th30
        refine ex_gf oq_X12_sumBy_106 Th30 (k := 111) (d := 12) rfl rfl ax31 ?_
        refine ex_il oq_X12_sumBy_109 gL16_3 ?_
        refine ex_add oq_X12_sumBy_110 (by omega) (fun x32 hx32 => ?_)
        have Ph30 : cw_PP G h30 := pp_fr0 (by decide +kernel) hP0 Fh30
        refine ex_cv oq_X12_sumBy_111 (by decide) Th30 (k := 111) (d := 12) (as := [cv_i x32]) (stk := [cv_i sm]) rfl rfl rfl rfl rfl rfl ⟨rfl, rfl⟩ (cw_HX hwa rfl (cw_Xok_no2 hX) ⟨Th30, Ph30⟩ ⟨.inl ⟨by decide, 111, rfl, rfl⟩, ⟨_, rfl, by show (0 : Int) ≤ _; omega, by show _ ≤ (2400 : Int); omega, cw_tg0⟩, trivial⟩ (fun t ht => absurd ht List.not_mem_nil)) (fun ox34 hox34 => ?_)
        obtain ⟨x34, h33, rfl, rx34, Th33, Ph33, Ch33, tx34⟩ := po_int hox34 rfl
        have lx34 := rx34.1
        have ux34 := rx34.2.1
        try dsimp only at lx34 ux34
        show cw_X _ _ _ _ _ [cv_i x34, cv_i sm] h33
        have Fh33 : cw_Fr cw_Ds cw_sh kk_X12_sumBy.2.2.2.2.2.1 h0 h33 := cw_Fr_tr Fh30 (cw_Fr_mono (by decide +kernel) Ch33)
        have eh33_43 : ri_at h33 111 43 = ri_at h30 111 43 := ri_frf Ch33 (d := 12) rfl rfl (by decide +kernel)
        refine ex_any (f := fun x y => some x) oq_X12_sumBy_114 rfl (fun x35 => ?_)
        refine ex_isA oq_X12_sumBy_115 (fun L36 gL36_2 kL36 => ?_)
        have gL36_4 : cv_get L36 4 = some (cv_i x15) := kL36 4 _ (by decide) (fun q => absurd q (by decide)) gL16_4
        have gL36_0 : cv_get L36 0 = some (cv_r 111) := kL36 0 _ (by decide) (fun q => absurd q (by decide)) gL16_0
        have gL36_1 : cv_get L36 1 = some (cv_i t) := kL36 1 _ (by decide) (fun _ => rfl) gL16_1
        have gL36_3 : cv_get L36 3 = some (cv_i k) := kL36 3 _ (by decide) (fun q => absurd q (by decide)) gL16_3
        refine ex_incA oq_X12_sumBy_116 (v := k) (m := 1) gL36_3 (by decide) (by omega) (fun L38 x37 hx37 gL38_3 kL38 => ?_)
        have gL38_2 : cv_get L38 2 = some (cv_i x35) := kL38 2 _ (by decide) (fun _ => rfl) gL36_2
        have gL38_4 : cv_get L38 4 = some (cv_i x15) := kL38 4 _ (by decide) (fun q => absurd q (by decide)) gL36_4
        have gL38_0 : cv_get L38 0 = some (cv_r 111) := kL38 0 _ (by decide) (fun q => absurd q (by decide)) gL36_0
        have gL38_1 : cv_get L38 1 = some (cv_i t) := kL38 1 _ (by decide) (fun q => absurd q (by decide)) gL36_1
        refine ex_go oq_X12_sumBy_119 (t := 39) rfl rfl ?_
        exact ih x35 x37 h33 Th33 Fh33 L38 gL38_0 gL38_1 gL38_2 gL38_3 (by omega) (by omega)
theorem sb_2 {h0 : cv_H} (hX : cw_Xok X) (hl5 : cw_Holds fk_all mt_all cw_Ds cw_sh G (cw_PP G) kk_X12_lays_5) (hl3 : cw_Holds fk_all mt_all cw_Ds cw_sh G (cw_PP G) kk_X12_lays_3) (hdr : cw_Holds fk_all mt_all cw_Ds cw_sh G (cw_PP G) kk_X12_dropOf) (hwa : cw_Holds fk_all mt_all cw_Ds cw_sh G (cw_PP G) kk_X12_weekOfAll) (hP0 : cw_PP G h0) (hod : od_p G h0) (t : Int32) (t0 : 1 ≤ t.toInt) (t1 : t.toInt ≤ 100) (hfin : ∀ (x : Int32) h, cw_T G h → cw_Fr cw_Ds cw_sh kk_X12_sumBy.2.2.2.2.2.1 h0 h → Q (some (cv_i x), h)) : ∀ (N : Nat) (g : Int32) (h : cv_H), cw_T G h → cw_Fr cw_Ds cw_sh kk_X12_sumBy.2.2.2.2.2.1 h0 h → ∀ L : cv_L, cv_get L 0 = some (cv_r 111) → cv_get L 1 = some (cv_i t) → cv_get L 2 = some (cv_i g) → 0 ≤ g.toInt ∧ g.toInt ≤ 4 → (4 - g.toInt).toNat ≤ N → cw_X X 267 Q 2 L [] h := by
  intro N
  induction N with
  | zero =>
    intro g h Th Fh L q0 q1 q2 g0 hN
    refine ex_il oq_X12_sumBy_2 q2 ?_
    refine ex_al oq_X12_sumBy_3 q0 ?_
    obtain ⟨x601, ax601, rx601, lx601, ux601⟩ := fi_gates Th
    refine ex_gf oq_X12_sumBy_4 Th (k := 111) (d := 12) rfl rfl ax601 ?_
    refine ex_if oq_X12_sumBy_7 (t := 35) rfl rfl (fun (c602 : x601.toInt ≤ g.toInt) => ?_) (fun (c602 : ¬ (x601.toInt ≤ g.toInt)) => ?_)
    · refine ex_ic oq_X12_sumBy_35 (m := 0) (by decide) (fun x603 hx603 => ?_)
      refine ex_isA oq_X12_sumBy_36 (fun L604 gL604_2 kL604 => ?_)
      have gL604_0 : cv_get L604 0 = some (cv_r 111) := kL604 0 _ (by decide) (fun q => absurd q (by decide)) q0
      have gL604_1 : cv_get L604 1 = some (cv_i t) := kL604 1 _ (by decide) (fun _ => rfl) q1
      refine ex_ic oq_X12_sumBy_37 (m := 0) (by decide) (fun x605 hx605 => ?_)
      refine ex_isA oq_X12_sumBy_38 (fun L606 gL606_3 kL606 => ?_)
      have gL606_2 : cv_get L606 2 = some (cv_i x603) := kL606 2 _ (by decide) (fun _ => rfl) gL604_2
      have gL606_0 : cv_get L606 0 = some (cv_r 111) := kL606 0 _ (by decide) (fun q => absurd q (by decide)) gL604_0
      have gL606_1 : cv_get L606 1 = some (cv_i t) := kL606 1 _ (by decide) (fun q => absurd q (by decide)) gL604_1
      exact sb_39 hX hl5 hl3 hdr hwa hP0 hod t t0 t1 hfin _ x603 x605 h Th Fh L606 gL606_0 gL606_1 gL606_2 gL606_3 (by omega) (Nat.le_refl _)
    · refine ex_al oq_X12_sumBy_10 q0 ?_
      refine ex_gf oq_X12_sumBy_11 Th (k := 111) (d := 12) rfl rfl (fr_tried Th) ?_
      refine ex_bi oq_X12_sumBy_14 (m := 16) (by decide) (fun x607 hx607 => ?_)
      refine ex_il oq_X12_sumBy_16 q2 ?_
      refine ex_mul oq_X12_sumBy_17 (m := 16 * g.toInt) (by rw [hx607]) (by omega) (fun x608 hx608 => ?_)
      refine ex_al oq_X12_sumBy_18 q0 ?_
      refine ex_gf oq_X12_sumBy_19 Th (k := 111) (d := 12) rfl rfl (fr_state Th) ?_
      refine ex_bi oq_X12_sumBy_22 (m := 16) (by decide) (fun x609 hx609 => ?_)
      refine ex_il oq_X12_sumBy_24 q2 ?_
      refine ex_mul oq_X12_sumBy_25 (m := 16 * g.toInt) (by rw [hx609]) (by omega) (fun x610 hx610 => ?_)
      have Ph : cw_PP G h := pp_fr0 (by decide +kernel) hP0 Fh
      refine ex_cs oq_X12_sumBy_26 (by decide) (as := [cv_r 147, cv_i x608, cv_r 130, cv_i x610]) (stk := []) rfl rfl rfl ⟨rfl, rfl⟩ (cw_HX hl5 rfl (cw_Xok_no2 hX) ⟨Th, Ph⟩ ⟨.inl ⟨by decide, 147, rfl, rfl⟩, ⟨_, rfl, by show (0 : Int) ≤ _; omega, by show _ ≤ (48 : Int); omega, cw_tg0⟩, .inl ⟨by decide, 130, rfl, rfl⟩, ⟨_, rfl, by show (0 : Int) ≤ _; omega, by show _ ≤ (48 : Int); omega, cw_tg0⟩, trivial⟩ (fun t ht => absurd ht List.not_mem_nil)) (fun ox612 hox612 => ?_)
      obtain ⟨h611, rfl, Th611, Ph611, Ch611⟩ := po_non hox612 rfl
      show cw_X _ _ _ _ _ [] h611
      have Fh611 : cw_Fr cw_Ds cw_sh kk_X12_sumBy.2.2.2.2.2.1 h0 h611 := cw_Fr_tr Fh (cw_Fr_mono (by decide +kernel) Ch611)
      refine ex_incA oq_X12_sumBy_29 (v := g) (m := 1) q2 (by decide) (by omega) (fun L614 x613 hx613 gL614_2 kL614 => ?_)
      have gL614_0 : cv_get L614 0 = some (cv_r 111) := kL614 0 _ (by decide) (fun q => absurd q (by decide)) q0
      have gL614_1 : cv_get L614 1 = some (cv_i t) := kL614 1 _ (by decide) (fun _ => rfl) q1
      refine ex_go oq_X12_sumBy_32 (t := 2) rfl rfl ?_
      exfalso; omega -- x613 h611 Th611 Fh611 L614 gL614_0 gL614_1 gL614_2 (by omega) (by omega)
  | succ N ih =>
    intro g h Th Fh L q0 q1 q2 g0 hN
    refine ex_il oq_X12_sumBy_2 q2 ?_
    refine ex_al oq_X12_sumBy_3 q0 ?_
    obtain ⟨x601, ax601, rx601, lx601, ux601⟩ := fi_gates Th
    refine ex_gf oq_X12_sumBy_4 Th (k := 111) (d := 12) rfl rfl ax601 ?_
    refine ex_if oq_X12_sumBy_7 (t := 35) rfl rfl (fun (c602 : x601.toInt ≤ g.toInt) => ?_) (fun (c602 : ¬ (x601.toInt ≤ g.toInt)) => ?_)
    · refine ex_ic oq_X12_sumBy_35 (m := 0) (by decide) (fun x603 hx603 => ?_)
      refine ex_isA oq_X12_sumBy_36 (fun L604 gL604_2 kL604 => ?_)
      have gL604_0 : cv_get L604 0 = some (cv_r 111) := kL604 0 _ (by decide) (fun q => absurd q (by decide)) q0
      have gL604_1 : cv_get L604 1 = some (cv_i t) := kL604 1 _ (by decide) (fun _ => rfl) q1
      refine ex_ic oq_X12_sumBy_37 (m := 0) (by decide) (fun x605 hx605 => ?_)
      refine ex_isA oq_X12_sumBy_38 (fun L606 gL606_3 kL606 => ?_)
      have gL606_2 : cv_get L606 2 = some (cv_i x603) := kL606 2 _ (by decide) (fun _ => rfl) gL604_2
      have gL606_0 : cv_get L606 0 = some (cv_r 111) := kL606 0 _ (by decide) (fun q => absurd q (by decide)) gL604_0
      have gL606_1 : cv_get L606 1 = some (cv_i t) := kL606 1 _ (by decide) (fun q => absurd q (by decide)) gL604_1
      exact sb_39 hX hl5 hl3 hdr hwa hP0 hod t t0 t1 hfin _ x603 x605 h Th Fh L606 gL606_0 gL606_1 gL606_2 gL606_3 (by omega) (Nat.le_refl _)
    · refine ex_al oq_X12_sumBy_10 q0 ?_
      refine ex_gf oq_X12_sumBy_11 Th (k := 111) (d := 12) rfl rfl (fr_tried Th) ?_
      refine ex_bi oq_X12_sumBy_14 (m := 16) (by decide) (fun x607 hx607 => ?_)
      refine ex_il oq_X12_sumBy_16 q2 ?_
      refine ex_mul oq_X12_sumBy_17 (m := 16 * g.toInt) (by rw [hx607]) (by omega) (fun x608 hx608 => ?_)
      refine ex_al oq_X12_sumBy_18 q0 ?_
      refine ex_gf oq_X12_sumBy_19 Th (k := 111) (d := 12) rfl rfl (fr_state Th) ?_
      refine ex_bi oq_X12_sumBy_22 (m := 16) (by decide) (fun x609 hx609 => ?_)
      refine ex_il oq_X12_sumBy_24 q2 ?_
      refine ex_mul oq_X12_sumBy_25 (m := 16 * g.toInt) (by rw [hx609]) (by omega) (fun x610 hx610 => ?_)
      have Ph : cw_PP G h := pp_fr0 (by decide +kernel) hP0 Fh
      refine ex_cs oq_X12_sumBy_26 (by decide) (as := [cv_r 147, cv_i x608, cv_r 130, cv_i x610]) (stk := []) rfl rfl rfl ⟨rfl, rfl⟩ (cw_HX hl5 rfl (cw_Xok_no2 hX) ⟨Th, Ph⟩ ⟨.inl ⟨by decide, 147, rfl, rfl⟩, ⟨_, rfl, by show (0 : Int) ≤ _; omega, by show _ ≤ (48 : Int); omega, cw_tg0⟩, .inl ⟨by decide, 130, rfl, rfl⟩, ⟨_, rfl, by show (0 : Int) ≤ _; omega, by show _ ≤ (48 : Int); omega, cw_tg0⟩, trivial⟩ (fun t ht => absurd ht List.not_mem_nil)) (fun ox612 hox612 => ?_)
      obtain ⟨h611, rfl, Th611, Ph611, Ch611⟩ := po_non hox612 rfl
      show cw_X _ _ _ _ _ [] h611
      have Fh611 : cw_Fr cw_Ds cw_sh kk_X12_sumBy.2.2.2.2.2.1 h0 h611 := cw_Fr_tr Fh (cw_Fr_mono (by decide +kernel) Ch611)
      refine ex_incA oq_X12_sumBy_29 (v := g) (m := 1) q2 (by decide) (by omega) (fun L614 x613 hx613 gL614_2 kL614 => ?_)
      have gL614_0 : cv_get L614 0 = some (cv_r 111) := kL614 0 _ (by decide) (fun q => absurd q (by decide)) q0
      have gL614_1 : cv_get L614 1 = some (cv_i t) := kL614 1 _ (by decide) (fun _ => rfl) q1
      refine ex_go oq_X12_sumBy_32 (t := 2) rfl rfl ?_
      exact ih x613 h611 Th611 Fh611 L614 gL614_0 gL614_1 gL614_2 (by omega) (by omega)
theorem sp_sumBy {h0 : cv_H} (hX : cw_Xok X) (hl5 : cw_Holds fk_all mt_all cw_Ds cw_sh G (cw_PP G) kk_X12_lays_5) (hl3 : cw_Holds fk_all mt_all cw_Ds cw_sh G (cw_PP G) kk_X12_lays_3) (hdr : cw_Holds fk_all mt_all cw_Ds cw_sh G (cw_PP G) kk_X12_dropOf) (hwa : cw_Holds fk_all mt_all cw_Ds cw_sh G (cw_PP G) kk_X12_weekOfAll) (hT : cw_T G h0) (hP : cw_PP G h0) (hod : od_p G h0) (t : Int32) (t0 : 1 ≤ t.toInt) (t1 : t.toInt ≤ 100) (hfin : ∀ (x : Int32) h, cw_T G h → cw_Fr cw_Ds cw_sh kk_X12_sumBy.2.2.2.2.2.1 h0 h → Q (some (cv_i x), h)) : cw_X X 267 Q 0 (cv_ent 0 [cv_r 111, cv_i t]) [] h0 := by
  refine ex_ic oq_X12_sumBy_0 (m := 0) (by decide) (fun x901 hx901 => ?_)
  refine ex_isA oq_X12_sumBy_1 (fun L902 gL902_2 kL902 => ?_)
  have gL902_0 : cv_get L902 0 = some (cv_r 111) := kL902 0 _ (by decide) (fun q => absurd q (by decide)) rfl
  have gL902_1 : cv_get L902 1 = some (cv_i t) := kL902 1 _ (by decide) (fun _ => rfl) rfl
  exact sb_2 hX hl5 hl3 hdr hwa hP hod t t0 t1 hfin _ x901 h0 hT cw_Fr_refl L902 gL902_0 gL902_1 gL902_2 (by omega) (Nat.le_refl _)
end SPJ
