/-! ===== methods walked by hand: first, the end ===== -/
section SPK
variable {G : Int} {X : cv_X} {Q : cv_O → Prop}
theorem od_fr {n : Int} {h h' : cv_H} (hp : od_p n h) (e : ∀ i, ri_at h' 145 i = ri_at h 145 i) : od_p n h' ∧ od_r h' = od_r h := by
  unfold od_p od_r at *
  simp only [e]
  exact ⟨hp, trivial⟩
theorem od_b {h : cv_H} (hT : cw_T G h) : 0 ≤ od_r h ∧ od_r h ≤ 255 := by
  have f : ∀ j, j < 4 → 0 ≤ ri_at h 145 j ∧ ri_at h 145 j ≤ 3 := by
    intro j hj
    obtain ⟨x, h1, h2, r, h3, h4, h5⟩ := ri_row hT (k := 145) (d := 84) rfl rfl hj
    rw [Nat.mod_one] at h3
    cases h3
    rw [h2]
    exact ⟨h4, h5⟩
  have f0 := f 0 (by decide)
  have f1 := f 1 (by decide)
  have f2 := f 2 (by decide)
  have f3 := f 3 (by decide)
  unfold od_r
  omega
theorem sp_nextOrder {h : cv_H} (hT : cw_T G h) (hG : 1 ≤ G) (hG4 : G ≤ 4) (n : Int32) (hn : n.toInt = G) (hp : od_p G h) (hQ : ∀ (x : Int32) (h' : cv_H), cw_T G h' → cw_Fr cw_Ds cw_sh kk_X12_nextOrder.2.2.2.2.2.1 h h' → 0 ≤ x.toInt → x.toInt ≤ 1 → (x.toInt = 1 → od_p G h' ∧ od_r h < od_r h') → Q (some (cv_i x), h')) : cw_X X 265 Q 0 (cv_ent 0 [cv_r 145, cv_i n]) [] h := by
  obtain rfl | rfl | rfl | rfl : G = 1 ∨ G = 2 ∨ G = 3 ∨ G = 4 := by omega
  · exact no_1 hT n hn hp hQ
  · exact no_2 hT n hn hp hQ
  · exact no_3 hT n hn hp hQ
  · exact no_4 hT n hn hp hQ
theorem oq_X12_first_0 : cw_ho 268 0 (.aload_n 0) 1 0 0 0 := rfl
theorem oq_X12_first_1 : cw_ho 268 1 (.iconst 0) 1 0 0 0 := rfl
theorem oq_X12_first_2 : cw_ho 268 2 (.putfield 136) 3 12 2 0 := rfl
theorem oq_X12_first_5 : cw_ho 268 5 (.aload_n 0) 1 0 0 0 := rfl
theorem oq_X12_first_6 : cw_ho 268 6 (.getfield 216) 3 12 12 0 := rfl
theorem oq_X12_first_9 : cw_ho 268 9 (.ifCond .eq 25) 3 0 0 0 := rfl
theorem oq_X12_first_12 : cw_ho 268 12 (.iload_n 1) 1 0 0 0 := rfl
theorem oq_X12_first_13 : cw_ho 268 13 (.iconst 1) 1 0 0 0 := rfl
theorem oq_X12_first_14 : cw_ho 268 14 (.bipush 100) 2 0 0 0 := rfl
theorem oq_X12_first_16 : cw_ho 268 16 (.invokestatic 180) 3 156 3 0 := rfl
theorem oq_X12_first_19 : cw_ho 268 19 (.ifCond .eq 15) 3 0 0 0 := rfl
theorem oq_X12_first_22 : cw_ho 268 22 (.iload_n 2) 1 0 0 0 := rfl
theorem oq_X12_first_23 : cw_ho 268 23 (.iconst 0) 1 0 0 0 := rfl
theorem oq_X12_first_24 : cw_ho 268 24 (.aload_n 0) 1 0 0 0 := rfl
theorem oq_X12_first_25 : cw_ho 268 25 (.getfield 216) 3 12 12 0 := rfl
theorem oq_X12_first_28 : cw_ho 268 28 (.invokestatic 180) 3 156 3 0 := rfl
theorem oq_X12_first_31 : cw_ho 268 31 (.ifCond .ne 5) 3 0 0 0 := rfl
theorem oq_X12_first_34 : cw_ho 268 34 (.iconst (-1)) 1 0 0 0 := rfl
theorem oq_X12_first_35 : cw_ho 268 35 (.ireturn) 1 0 0 0 := rfl
theorem oq_X12_first_36 : cw_ho 268 36 (.iconst 0) 1 0 0 0 := rfl
theorem oq_X12_first_37 : cw_ho 268 37 (.istore_n 3) 1 0 0 0 := rfl
theorem oq_X12_first_38 : cw_ho 268 38 (.iload_n 3) 1 0 0 0 := rfl
theorem oq_X12_first_39 : cw_ho 268 39 (.iconst 4) 1 0 0 0 := rfl
theorem oq_X12_first_40 : cw_ho 268 40 (.if_icmp .ge 16) 3 0 0 0 := rfl
theorem oq_X12_first_43 : cw_ho 268 43 (.aload_n 0) 1 0 0 0 := rfl
theorem oq_X12_first_44 : cw_ho 268 44 (.getfield 118) 3 12 63 4 := rfl
theorem oq_X12_first_47 : cw_ho 268 47 (.iload_n 3) 1 0 0 0 := rfl
theorem oq_X12_first_48 : cw_ho 268 48 (.iload_n 3) 1 0 0 0 := rfl
theorem oq_X12_first_49 : cw_ho 268 49 (.iastore) 1 0 0 0 := rfl
theorem oq_X12_first_50 : cw_ho 268 50 (.iinc 3 1) 3 0 0 0 := rfl
theorem oq_X12_first_53 : cw_ho 268 53 (.goto (-15)) 3 0 0 0 := rfl
theorem oq_X12_first_56 : cw_ho 268 56 (.iconst (-1)) 1 0 0 0 := rfl
theorem oq_X12_first_57 : cw_ho 268 57 (.istore_n 3) 1 0 0 0 := rfl
theorem oq_X12_first_58 : cw_ho 268 58 (.iconst 1) 1 0 0 0 := rfl
theorem oq_X12_first_59 : cw_ho 268 59 (.istore 4) 2 0 0 0 := rfl
theorem oq_X12_first_61 : cw_ho 268 61 (.iload 4) 2 0 0 0 := rfl
theorem oq_X12_first_63 : cw_ho 268 63 (.ifCond .eq 68) 3 0 0 0 := rfl
theorem oq_X12_first_66 : cw_ho 268 66 (.aload_n 0) 1 0 0 0 := rfl
theorem oq_X12_first_67 : cw_ho 268 67 (.iload_n 1) 1 0 0 0 := rfl
theorem oq_X12_first_68 : cw_ho 268 68 (.invokevirtual 497) 3 267 1 12 := rfl
theorem oq_X12_first_71 : cw_ho 268 71 (.istore 5) 2 0 0 0 := rfl
theorem oq_X12_first_73 : cw_ho 268 73 (.iload_n 3) 1 0 0 0 := rfl
theorem oq_X12_first_74 : cw_ho 268 74 (.ifCond .lt 9) 3 0 0 0 := rfl
theorem oq_X12_first_77 : cw_ho 268 77 (.iload 5) 2 0 0 0 := rfl
theorem oq_X12_first_79 : cw_ho 268 79 (.iload_n 3) 1 0 0 0 := rfl
theorem oq_X12_first_80 : cw_ho 268 80 (.if_icmp .ge 35) 3 0 0 0 := rfl
theorem oq_X12_first_83 : cw_ho 268 83 (.iload 5) 2 0 0 0 := rfl
theorem oq_X12_first_85 : cw_ho 268 85 (.istore_n 3) 1 0 0 0 := rfl
theorem oq_X12_first_86 : cw_ho 268 86 (.iconst 0) 1 0 0 0 := rfl
theorem oq_X12_first_87 : cw_ho 268 87 (.istore 6) 2 0 0 0 := rfl
theorem oq_X12_first_89 : cw_ho 268 89 (.iload 6) 2 0 0 0 := rfl
theorem oq_X12_first_91 : cw_ho 268 91 (.iconst 4) 1 0 0 0 := rfl
theorem oq_X12_first_92 : cw_ho 268 92 (.if_icmp .ge 23) 3 0 0 0 := rfl
theorem oq_X12_first_95 : cw_ho 268 95 (.aload_n 0) 1 0 0 0 := rfl
theorem oq_X12_first_96 : cw_ho 268 96 (.getfield 121) 3 12 64 4 := rfl
theorem oq_X12_first_99 : cw_ho 268 99 (.iload 6) 2 0 0 0 := rfl
theorem oq_X12_first_101 : cw_ho 268 101 (.aload_n 0) 1 0 0 0 := rfl
theorem oq_X12_first_102 : cw_ho 268 102 (.getfield 118) 3 12 63 4 := rfl
theorem oq_X12_first_105 : cw_ho 268 105 (.iload 6) 2 0 0 0 := rfl
theorem oq_X12_first_107 : cw_ho 268 107 (.iaload) 1 0 0 0 := rfl
theorem oq_X12_first_108 : cw_ho 268 108 (.iastore) 1 0 0 0 := rfl
theorem oq_X12_first_109 : cw_ho 268 109 (.iinc 6 1) 3 0 0 0 := rfl
theorem oq_X12_first_112 : cw_ho 268 112 (.goto (-23)) 3 0 0 0 := rfl
theorem oq_X12_first_115 : cw_ho 268 115 (.aload_n 0) 1 0 0 0 := rfl
theorem oq_X12_first_116 : cw_ho 268 116 (.getfield 118) 3 12 63 4 := rfl
theorem oq_X12_first_119 : cw_ho 268 119 (.aload_n 0) 1 0 0 0 := rfl
theorem oq_X12_first_120 : cw_ho 268 120 (.getfield 216) 3 12 12 0 := rfl
theorem oq_X12_first_123 : cw_ho 268 123 (.invokestatic 500) 3 265 2 0 := rfl
theorem oq_X12_first_126 : cw_ho 268 126 (.istore 4) 2 0 0 0 := rfl
theorem oq_X12_first_128 : cw_ho 268 128 (.goto (-67)) 3 0 0 0 := rfl
theorem oq_X12_first_131 : cw_ho 268 131 (.iload_n 2) 1 0 0 0 := rfl
theorem oq_X12_first_132 : cw_ho 268 132 (.ifCond .ne 7) 3 0 0 0 := rfl
theorem oq_X12_first_135 : cw_ho 268 135 (.iload_n 3) 1 0 0 0 := rfl
theorem oq_X12_first_136 : cw_ho 268 136 (.goto 11) 3 0 0 0 := rfl
theorem oq_X12_first_139 : cw_ho 268 139 (.aload_n 0) 1 0 0 0 := rfl
theorem oq_X12_first_140 : cw_ho 268 140 (.getfield 121) 3 12 64 4 := rfl
theorem oq_X12_first_143 : cw_ho 268 143 (.iload_n 2) 1 0 0 0 := rfl
theorem oq_X12_first_144 : cw_ho 268 144 (.iconst 1) 1 0 0 0 := rfl
theorem oq_X12_first_145 : cw_ho 268 145 (.isub) 1 0 0 0 := rfl
theorem oq_X12_first_146 : cw_ho 268 146 (.iaload) 1 0 0 0 := rfl
theorem oq_X12_first_147 : cw_ho 268 147 (.ireturn) 1 0 0 0 := rfl
theorem fi_61 {h0 : cv_H} (hX : cw_Xok X) (hl5 : cw_Holds fk_all mt_all cw_Ds cw_sh G (cw_PP G) kk_X12_lays_5) (hl3 : cw_Holds fk_all mt_all cw_Ds cw_sh G (cw_PP G) kk_X12_lays_3) (hdr : cw_Holds fk_all mt_all cw_Ds cw_sh G (cw_PP G) kk_X12_dropOf) (hwa : cw_Holds fk_all mt_all cw_Ds cw_sh G (cw_PP G) kk_X12_weekOfAll) (hP0 : cw_PP G h0) (hG1 : 1 ≤ G) (hG4 : G ≤ 4) (t w : Int32) (t0 : 1 ≤ t.toInt) (t1 : t.toInt ≤ 100) (w0 : 0 ≤ w.toInt) (w1 : w.toInt ≤ G) (hfin : ∀ (x : Int32) h, cw_T G h → cw_Fr cw_Ds cw_sh kk_X12_first.2.2.2.2.2.1 h0 h → Q (some (cv_i x), h)) : ∀ (N : Nat) (bs mo : Int32) (h : cv_H), cw_T G h → cw_Fr cw_Ds cw_sh kk_X12_first.2.2.2.2.2.1 h0 h → ∀ L : cv_L, cv_get L 0 = some (cv_r 111) → cv_get L 1 = some (cv_i t) → cv_get L 2 = some (cv_i w) → cv_get L 3 = some (cv_i bs) → cv_get L 4 = some (cv_i mo) → 0 ≤ mo.toInt → mo.toInt ≤ 1 → (mo.toInt = 0 ∨ od_p G h) → (mo.toInt = 0 ∨ (257 - od_r h).toNat ≤ N) → cw_X X 268 Q 61 L [] h := by
  intro N
  induction N with
  | zero =>
    intro bs mo h Th Fh L q0 q1 q2 q3 q4 m0 m1 hmo hN
    have bb0 := od_b Th
    refine ex_ilw oq_X12_first_61 q4 ?_
    refine ex_if0 oq_X12_first_63 (t := 131) rfl rfl (fun (c1 : mo.toInt = 0) => ?_) (fun (c1 : ¬ (mo.toInt = 0)) => ?_)
    · refine ex_il oq_X12_first_131 q2 ?_
      refine ex_if0 oq_X12_first_132 (t := 139) rfl rfl (fun (c2 : ¬ w.toInt = 0) => ?_) (fun (c2 : ¬ (¬ w.toInt = 0)) => ?_)
      · refine ex_al oq_X12_first_139 q0 ?_
        refine ex_gf oq_X12_first_140 Th (k := 111) (d := 12) rfl rfl (fr_bestOrder Th) ?_
        refine ex_il oq_X12_first_143 q2 ?_
        refine ex_ic oq_X12_first_144 (m := 1) (by decide) (fun x3 hx3 => ?_)
        refine ex_sub oq_X12_first_145 (by omega) (fun x4 hx4 => ?_)
        refine ex_ia1 oq_X12_first_146 Th (k := 146) (d := 85) (j := x4.toInt.toNat) rfl rfl (by omega) (by omega) (fun x5 hx5 lx5 ux5 => ?_)
        exact ex_reti oq_X12_first_147 rfl (hfin x5 h Th Fh)
      · refine ex_il oq_X12_first_135 q3 ?_
        refine ex_go oq_X12_first_136 (t := 147) rfl rfl ?_
        exact ex_reti oq_X12_first_147 rfl (hfin bs h Th Fh)
    · have hod : od_p G h := hmo.resolve_left (by omega)
      refine ex_al oq_X12_first_66 q0 ?_
      refine ex_il oq_X12_first_67 q1 ?_
      have Ph : cw_PP G h := pp_fr0 (by decide +kernel) hP0 Fh
      refine ex_cv oq_X12_first_68 (by decide) Th (k := 111) (d := 12) (as := [cv_i t]) (stk := []) rfl rfl rfl rfl rfl rfl ⟨rfl, rfl⟩ (R := fun o => ∃ (x : Int32) (hb : cv_H), o = (some (cv_i x), hb) ∧ cw_T G hb ∧ cw_Fr cw_Ds cw_sh kk_X12_sumBy.2.2.2.2.2.1 h hb) (sp_sumBy (cw_Xok_no2 hX) hl5 hl3 hdr hwa Th Ph hod t t0 t1 (fun x h a1 a2 => ⟨x, h, rfl, a1, a2⟩)) (fun o ho => ?_)
      obtain ⟨x7, h6, rfl, Th6, Ch6⟩ := ho
      show cw_X _ _ _ _ _ [cv_i x7] h6
      have Fh6 : cw_Fr cw_Ds cw_sh kk_X12_first.2.2.2.2.2.1 h0 h6 := cw_Fr_tr Fh (cw_Fr_mono (by decide +kernel) Ch6)
      obtain ⟨hodh6, horh6⟩ := od_fr hod (fun i => ri_frr Ch6 (k := 145) (d := 84) (i := i) rfl rfl (by decide +kernel))
      refine ex_iswA oq_X12_first_71 (fun L8 gL8_5 kL8 => ?_)
      have gL8_0 : cv_get L8 0 = some (cv_r 111) := kL8 0 _ (by decide) (fun q => absurd q (by decide)) q0
      have gL8_1 : cv_get L8 1 = some (cv_i t) := kL8 1 _ (by decide) (fun q => absurd q (by decide)) q1
      have gL8_2 : cv_get L8 2 = some (cv_i w) := kL8 2 _ (by decide) (fun q => absurd q (by decide)) q2
      have gL8_3 : cv_get L8 3 = some (cv_i bs) := kL8 3 _ (by decide) (fun q => absurd q (by decide)) q3
      have gL8_4 : cv_get L8 4 = some (cv_i mo) := kL8 4 _ (by decide) (fun _ => rfl) q4
      refine ex_il oq_X12_first_73 gL8_3 ?_
      refine ex_if0 oq_X12_first_74 (t := 83) rfl rfl (fun (c9 : bs.toInt < 0) => ?_) (fun (c9 : ¬ (bs.toInt < 0)) => ?_)
      · refine ex_ilw oq_X12_first_83 gL8_5 ?_
        refine ex_isA oq_X12_first_85 (fun L10 gL10_3 kL10 => ?_)
        have gL10_5 : cv_get L10 5 = some (cv_i x7) := kL10 5 _ (by decide) (fun q => absurd q (by decide)) gL8_5
        have gL10_0 : cv_get L10 0 = some (cv_r 111) := kL10 0 _ (by decide) (fun q => absurd q (by decide)) gL8_0
        have gL10_1 : cv_get L10 1 = some (cv_i t) := kL10 1 _ (by decide) (fun q => absurd q (by decide)) gL8_1
        have gL10_2 : cv_get L10 2 = some (cv_i w) := kL10 2 _ (by decide) (fun _ => rfl) gL8_2
        have gL10_4 : cv_get L10 4 = some (cv_i mo) := kL10 4 _ (by decide) (fun q => absurd q (by decide)) gL8_4
        refine ex_ic oq_X12_first_86 (m := 0) (by decide) (fun x11 hx11 => ?_)
        refine ex_iswA oq_X12_first_87 (fun L12 gL12_6 kL12 => ?_)
        have gL12_3 : cv_get L12 3 = some (cv_i x7) := kL12 3 _ (by decide) (fun q => absurd q (by decide)) gL10_3
        have gL12_5 : cv_get L12 5 = some (cv_i x7) := kL12 5 _ (by decide) (fun _ => rfl) gL10_5
        have gL12_0 : cv_get L12 0 = some (cv_r 111) := kL12 0 _ (by decide) (fun q => absurd q (by decide)) gL10_0
        have gL12_1 : cv_get L12 1 = some (cv_i t) := kL12 1 _ (by decide) (fun q => absurd q (by decide)) gL10_1
        have gL12_2 : cv_get L12 2 = some (cv_i w) := kL12 2 _ (by decide) (fun q => absurd q (by decide)) gL10_2
        have gL12_4 : cv_get L12 4 = some (cv_i mo) := kL12 4 _ (by decide) (fun q => absurd q (by decide)) gL10_4
        refine ex_ilw oq_X12_first_89 gL12_6 ?_
        refine ex_ic oq_X12_first_91 (m := 4) (by decide) (fun x13 hx13 => ?_)
        refine ex_if oq_X12_first_92 (t := 115) rfl rfl (fun (c14 : x13.toInt ≤ x11.toInt) => ?_) (fun (c14 : ¬ (x13.toInt ≤ x11.toInt)) => ?_)
        · exfalso; omega
        · refine ex_al oq_X12_first_95 gL12_0 ?_
          refine ex_gf oq_X12_first_96 Th6 (k := 111) (d := 12) rfl rfl (fr_bestOrder Th6) ?_
          refine ex_ilw oq_X12_first_99 gL12_6 ?_
          refine ex_al oq_X12_first_101 gL12_0 ?_
          refine ex_gf oq_X12_first_102 Th6 (k := 111) (d := 12) rfl rfl (fr_order Th6) ?_
          refine ex_ilw oq_X12_first_105 gL12_6 ?_
          refine ex_ia1 oq_X12_first_107 Th6 (k := 145) (d := 84) (j := 0) rfl rfl (by omega) (by omega) (fun x15 hx15 lx15 ux15 => ?_)
          refine ex_iw1 oq_X12_first_108 Th6 (k := 146) (d := 85) (j := 0) rfl rfl (by omega) (by omega) ⟨by omega, by omega⟩ (fun h16 Th16 wh16 => ?_)
          have Fh16 : cw_Fr cw_Ds cw_sh kk_X12_first.2.2.2.2.2.1 h0 h16 := cw_Fr_tr Fh6 (cw_Fr_wrr wh16 (k := 146) (d := 85) rfl rfl (by decide +kernel))
          refine ex_incA oq_X12_first_109 (v := x11) (m := 1) gL12_6 (by decide) (by omega) (fun L18 x17 hx17 gL18_6 kL18 => ?_)
          have gL18_3 : cv_get L18 3 = some (cv_i x7) := kL18 3 _ (by decide) (fun q => absurd q (by decide)) gL12_3
          have gL18_5 : cv_get L18 5 = some (cv_i x7) := kL18 5 _ (by decide) (fun _ => rfl) gL12_5
          have gL18_0 : cv_get L18 0 = some (cv_r 111) := kL18 0 _ (by decide) (fun q => absurd q (by decide)) gL12_0
          have gL18_1 : cv_get L18 1 = some (cv_i t) := kL18 1 _ (by decide) (fun q => absurd q (by decide)) gL12_1
          have gL18_2 : cv_get L18 2 = some (cv_i w) := kL18 2 _ (by decide) (fun q => absurd q (by decide)) gL12_2
          have gL18_4 : cv_get L18 4 = some (cv_i mo) := kL18 4 _ (by decide) (fun q => absurd q (by decide)) gL12_4
          refine ex_go oq_X12_first_112 (t := 89) rfl rfl ?_
          refine ex_ilw oq_X12_first_89 gL18_6 ?_
          refine ex_ic oq_X12_first_91 (m := 4) (by decide) (fun x19 hx19 => ?_)
          refine ex_if oq_X12_first_92 (t := 115) rfl rfl (fun (c20 : x19.toInt ≤ x17.toInt) => ?_) (fun (c20 : ¬ (x19.toInt ≤ x17.toInt)) => ?_)
          · exfalso; omega
          · refine ex_al oq_X12_first_95 gL18_0 ?_
            refine ex_gf oq_X12_first_96 Th16 (k := 111) (d := 12) rfl rfl (fr_bestOrder Th16) ?_
            refine ex_ilw oq_X12_first_99 gL18_6 ?_
            refine ex_al oq_X12_first_101 gL18_0 ?_
            refine ex_gf oq_X12_first_102 Th16 (k := 111) (d := 12) rfl rfl (fr_order Th16) ?_
            refine ex_ilw oq_X12_first_105 gL18_6 ?_
            refine ex_ia1 oq_X12_first_107 Th16 (k := 145) (d := 84) (j := 1) rfl rfl (by omega) (by omega) (fun x21 hx21 lx21 ux21 => ?_)
            refine ex_iw1 oq_X12_first_108 Th16 (k := 146) (d := 85) (j := 1) rfl rfl (by omega) (by omega) ⟨by omega, by omega⟩ (fun h22 Th22 wh22 => ?_)
            have Fh22 : cw_Fr cw_Ds cw_sh kk_X12_first.2.2.2.2.2.1 h0 h22 := cw_Fr_tr Fh16 (cw_Fr_wrr wh22 (k := 146) (d := 85) rfl rfl (by decide +kernel))
            refine ex_incA oq_X12_first_109 (v := x17) (m := 1) gL18_6 (by decide) (by omega) (fun L24 x23 hx23 gL24_6 kL24 => ?_)
            have gL24_3 : cv_get L24 3 = some (cv_i x7) := kL24 3 _ (by decide) (fun q => absurd q (by decide)) gL18_3
            have gL24_5 : cv_get L24 5 = some (cv_i x7) := kL24 5 _ (by decide) (fun _ => rfl) gL18_5
            have gL24_0 : cv_get L24 0 = some (cv_r 111) := kL24 0 _ (by decide) (fun q => absurd q (by decide)) gL18_0
            have gL24_1 : cv_get L24 1 = some (cv_i t) := kL24 1 _ (by decide) (fun q => absurd q (by decide)) gL18_1
            have gL24_2 : cv_get L24 2 = some (cv_i w) := kL24 2 _ (by decide) (fun q => absurd q (by decide)) gL18_2
            have gL24_4 : cv_get L24 4 = some (cv_i mo) := kL24 4 _ (by decide) (fun q => absurd q (by decide)) gL18_4
            refine ex_go oq_X12_first_112 (t := 89) rfl rfl ?_
            refine ex_ilw oq_X12_first_89 gL24_6 ?_
            refine ex_ic oq_X12_first_91 (m := 4) (by decide) (fun x25 hx25 => ?_)
            refine ex_if oq_X12_first_92 (t := 115) rfl rfl (fun (c26 : x25.toInt ≤ x23.toInt) => ?_) (fun (c26 : ¬ (x25.toInt ≤ x23.toInt)) => ?_)
            · exfalso; omega
            · refine ex_al oq_X12_first_95 gL24_0 ?_
              refine ex_gf oq_X12_first_96 Th22 (k := 111) (d := 12) rfl rfl (fr_bestOrder Th22) ?_
              refine ex_ilw oq_X12_first_99 gL24_6 ?_
              refine ex_al oq_X12_first_101 gL24_0 ?_
              refine ex_gf oq_X12_first_102 Th22 (k := 111) (d := 12) rfl rfl (fr_order Th22) ?_
              refine ex_ilw oq_X12_first_105 gL24_6 ?_
              refine ex_ia1 oq_X12_first_107 Th22 (k := 145) (d := 84) (j := 2) rfl rfl (by omega) (by omega) (fun x27 hx27 lx27 ux27 => ?_)
              refine ex_iw1 oq_X12_first_108 Th22 (k := 146) (d := 85) (j := 2) rfl rfl (by omega) (by omega) ⟨by omega, by omega⟩ (fun h28 Th28 wh28 => ?_)
              have Fh28 : cw_Fr cw_Ds cw_sh kk_X12_first.2.2.2.2.2.1 h0 h28 := cw_Fr_tr Fh22 (cw_Fr_wrr wh28 (k := 146) (d := 85) rfl rfl (by decide +kernel))
              refine ex_incA oq_X12_first_109 (v := x23) (m := 1) gL24_6 (by decide) (by omega) (fun L30 x29 hx29 gL30_6 kL30 => ?_)
              have gL30_3 : cv_get L30 3 = some (cv_i x7) := kL30 3 _ (by decide) (fun q => absurd q (by decide)) gL24_3
              have gL30_5 : cv_get L30 5 = some (cv_i x7) := kL30 5 _ (by decide) (fun _ => rfl) gL24_5
              have gL30_0 : cv_get L30 0 = some (cv_r 111) := kL30 0 _ (by decide) (fun q => absurd q (by decide)) gL24_0
              have gL30_1 : cv_get L30 1 = some (cv_i t) := kL30 1 _ (by decide) (fun q => absurd q (by decide)) gL24_1
              have gL30_2 : cv_get L30 2 = some (cv_i w) := kL30 2 _ (by decide) (fun q => absurd q (by decide)) gL24_2
              have gL30_4 : cv_get L30 4 = some (cv_i mo) := kL30 4 _ (by decide) (fun q => absurd q (by decide)) gL24_4
              refine ex_go oq_X12_first_112 (t := 89) rfl rfl ?_
              refine ex_ilw oq_X12_first_89 gL30_6 ?_
              refine ex_ic oq_X12_first_91 (m := 4) (by decide) (fun x31 hx31 => ?_)
              refine ex_if oq_X12_first_92 (t := 115) rfl rfl (fun (c32 : x31.toInt ≤ x29.toInt) => ?_) (fun (c32 : ¬ (x31.toInt ≤ x29.toInt)) => ?_)
              · exfalso; omega
              · refine ex_al oq_X12_first_95 gL30_0 ?_
                refine ex_gf oq_X12_first_96 Th28 (k := 111) (d := 12) rfl rfl (fr_bestOrder Th28) ?_
                refine ex_ilw oq_X12_first_99 gL30_6 ?_
                refine ex_al oq_X12_first_101 gL30_0 ?_
                refine ex_gf oq_X12_first_102 Th28 (k := 111) (d := 12) rfl rfl (fr_order Th28) ?_
                refine ex_ilw oq_X12_first_105 gL30_6 ?_
                refine ex_ia1 oq_X12_first_107 Th28 (k := 145) (d := 84) (j := 3) rfl rfl (by omega) (by omega) (fun x33 hx33 lx33 ux33 => ?_)
                refine ex_iw1 oq_X12_first_108 Th28 (k := 146) (d := 85) (j := 3) rfl rfl (by omega) (by omega) ⟨by omega, by omega⟩ (fun h34 Th34 wh34 => ?_)
                have Fh34 : cw_Fr cw_Ds cw_sh kk_X12_first.2.2.2.2.2.1 h0 h34 := cw_Fr_tr Fh28 (cw_Fr_wrr wh34 (k := 146) (d := 85) rfl rfl (by decide +kernel))
                refine ex_incA oq_X12_first_109 (v := x29) (m := 1) gL30_6 (by decide) (by omega) (fun L36 x35 hx35 gL36_6 kL36 => ?_)
                have gL36_3 : cv_get L36 3 = some (cv_i x7) := kL36 3 _ (by decide) (fun q => absurd q (by decide)) gL30_3
                have gL36_5 : cv_get L36 5 = some (cv_i x7) := kL36 5 _ (by decide) (fun _ => rfl) gL30_5
                have gL36_0 : cv_get L36 0 = some (cv_r 111) := kL36 0 _ (by decide) (fun q => absurd q (by decide)) gL30_0
                have gL36_1 : cv_get L36 1 = some (cv_i t) := kL36 1 _ (by decide) (fun q => absurd q (by decide)) gL30_1
                have gL36_2 : cv_get L36 2 = some (cv_i w) := kL36 2 _ (by decide) (fun q => absurd q (by decide)) gL30_2
                have gL36_4 : cv_get L36 4 = some (cv_i mo) := kL36 4 _ (by decide) (fun q => absurd q (by decide)) gL30_4
                refine ex_go oq_X12_first_112 (t := 89) rfl rfl ?_
                refine ex_ilw oq_X12_first_89 gL36_6 ?_
                refine ex_ic oq_X12_first_91 (m := 4) (by decide) (fun x37 hx37 => ?_)
                refine ex_if oq_X12_first_92 (t := 115) rfl rfl (fun (c38 : x37.toInt ≤ x35.toInt) => ?_) (fun (c38 : ¬ (x37.toInt ≤ x35.toInt)) => ?_)
                · refine ex_al oq_X12_first_115 gL36_0 ?_
                  refine ex_gf oq_X12_first_116 Th34 (k := 111) (d := 12) rfl rfl (fr_order Th34) ?_
                  refine ex_al oq_X12_first_119 gL36_0 ?_
                  obtain ⟨x39, ax39, rx39, lx39, ux39⟩ := fi_gates Th34
                  refine ex_gf oq_X12_first_120 Th34 (k := 111) (d := 12) rfl rfl ax39 ?_
                  obtain ⟨hodh34, horh34⟩ := od_fr hodh6 (h' := h34) (fun i => ((ri_ne wh34 (.inl (by decide))).trans ((ri_ne wh28 (.inl (by decide))).trans ((ri_ne wh22 (.inl (by decide))).trans (ri_ne wh16 (.inl (by decide)))))))
                  have hG := fr_G Th34
                  refine ex_cs oq_X12_first_123 (by decide) (as := [cv_r 145, cv_i x39]) (stk := []) rfl rfl rfl ⟨rfl, rfl⟩ (R := fun o => ∃ (x : Int32) (hb : cv_H), o = (some (cv_i x), hb) ∧ cw_T G hb ∧ cw_Fr cw_Ds cw_sh kk_X12_nextOrder.2.2.2.2.2.1 h34 hb ∧ 0 ≤ x.toInt ∧ x.toInt ≤ 1 ∧ (x.toInt = 1 → od_p G hb ∧ od_r h34 < od_r hb)) (sp_nextOrder Th34 hG1 hG4 x39 (by omega) hodh34 (fun x h a1 a2 a3 a4 a5 => ⟨x, h, rfl, a1, a2, a3, a4, a5⟩)) (fun o ho => ?_)
                  obtain ⟨x41, h40, rfl, Th40, Ch40, lx41, ux41, dx41⟩ := ho
                  show cw_X _ _ _ _ _ [cv_i x41] h40
                  have Fh40 : cw_Fr cw_Ds cw_sh kk_X12_first.2.2.2.2.2.1 h0 h40 := cw_Fr_tr Fh34 (cw_Fr_mono (by decide +kernel) Ch40)
                  refine ex_iswA oq_X12_first_126 (fun L42 gL42_4 kL42 => ?_)
                  have gL42_6 : cv_get L42 6 = some (cv_i x35) := kL42 6 _ (by decide) (fun q => absurd q (by decide)) gL36_6
                  have gL42_3 : cv_get L42 3 = some (cv_i x7) := kL42 3 _ (by decide) (fun _ => rfl) gL36_3
                  have gL42_5 : cv_get L42 5 = some (cv_i x7) := kL42 5 _ (by decide) (fun q => absurd q (by decide)) gL36_5
                  have gL42_0 : cv_get L42 0 = some (cv_r 111) := kL42 0 _ (by decide) (fun q => absurd q (by decide)) gL36_0
                  have gL42_1 : cv_get L42 1 = some (cv_i t) := kL42 1 _ (by decide) (fun q => absurd q (by decide)) gL36_1
                  have gL42_2 : cv_get L42 2 = some (cv_i w) := kL42 2 _ (by decide) (fun q => absurd q (by decide)) gL36_2
                  refine ex_go oq_X12_first_128 (t := 61) rfl rfl ?_
                  have bb := od_b Th40
                  rcases (by omega : x41.toInt = 0 ∨ x41.toInt = 1) with hx0 | hx1
                  · exfalso; omega -- x7 x41 h40 Th40 Fh40 L42 gL42_0 gL42_1 gL42_2 gL42_3 gL42_4 lx41 ux41 (.inl hx0) (.inl hx0)
                  · exfalso; omega -- x7 x41 h40 Th40 Fh40 L42 gL42_0 gL42_1 gL42_2 gL42_3 gL42_4 lx41 ux41 (.inr (dx41 hx1).1) (.inr (by have := (dx41 hx1).2; omega))
                · exfalso; omega
      · refine ex_ilw oq_X12_first_77 gL8_5 ?_
        refine ex_il oq_X12_first_79 gL8_3 ?_
        refine ex_if oq_X12_first_80 (t := 115) rfl rfl (fun (c43 : bs.toInt ≤ x7.toInt) => ?_) (fun (c43 : ¬ (bs.toInt ≤ x7.toInt)) => ?_)
        · refine ex_al oq_X12_first_115 gL8_0 ?_
          refine ex_gf oq_X12_first_116 Th6 (k := 111) (d := 12) rfl rfl (fr_order Th6) ?_
          refine ex_al oq_X12_first_119 gL8_0 ?_
          obtain ⟨x44, ax44, rx44, lx44, ux44⟩ := fi_gates Th6
          refine ex_gf oq_X12_first_120 Th6 (k := 111) (d := 12) rfl rfl ax44 ?_
          have hG := fr_G Th6
          refine ex_cs oq_X12_first_123 (by decide) (as := [cv_r 145, cv_i x44]) (stk := []) rfl rfl rfl ⟨rfl, rfl⟩ (R := fun o => ∃ (x : Int32) (hb : cv_H), o = (some (cv_i x), hb) ∧ cw_T G hb ∧ cw_Fr cw_Ds cw_sh kk_X12_nextOrder.2.2.2.2.2.1 h6 hb ∧ 0 ≤ x.toInt ∧ x.toInt ≤ 1 ∧ (x.toInt = 1 → od_p G hb ∧ od_r h6 < od_r hb)) (sp_nextOrder Th6 hG1 hG4 x44 (by omega) hodh6 (fun x h a1 a2 a3 a4 a5 => ⟨x, h, rfl, a1, a2, a3, a4, a5⟩)) (fun o ho => ?_)
          obtain ⟨x46, h45, rfl, Th45, Ch45, lx46, ux46, dx46⟩ := ho
          show cw_X _ _ _ _ _ [cv_i x46] h45
          have Fh45 : cw_Fr cw_Ds cw_sh kk_X12_first.2.2.2.2.2.1 h0 h45 := cw_Fr_tr Fh6 (cw_Fr_mono (by decide +kernel) Ch45)
          refine ex_iswA oq_X12_first_126 (fun L47 gL47_4 kL47 => ?_)
          have gL47_5 : cv_get L47 5 = some (cv_i x7) := kL47 5 _ (by decide) (fun q => absurd q (by decide)) gL8_5
          have gL47_0 : cv_get L47 0 = some (cv_r 111) := kL47 0 _ (by decide) (fun q => absurd q (by decide)) gL8_0
          have gL47_1 : cv_get L47 1 = some (cv_i t) := kL47 1 _ (by decide) (fun q => absurd q (by decide)) gL8_1
          have gL47_2 : cv_get L47 2 = some (cv_i w) := kL47 2 _ (by decide) (fun q => absurd q (by decide)) gL8_2
          have gL47_3 : cv_get L47 3 = some (cv_i bs) := kL47 3 _ (by decide) (fun _ => rfl) gL8_3
          refine ex_go oq_X12_first_128 (t := 61) rfl rfl ?_
          have bb := od_b Th45
          rcases (by omega : x46.toInt = 0 ∨ x46.toInt = 1) with hx0 | hx1
          · exfalso; omega -- bs x46 h45 Th45 Fh45 L47 gL47_0 gL47_1 gL47_2 gL47_3 gL47_4 lx46 ux46 (.inl hx0) (.inl hx0)
          · exfalso; omega -- bs x46 h45 Th45 Fh45 L47 gL47_0 gL47_1 gL47_2 gL47_3 gL47_4 lx46 ux46 (.inr (dx46 hx1).1) (.inr (by have := (dx46 hx1).2; omega))
        · refine ex_ilw oq_X12_first_83 gL8_5 ?_
          refine ex_isA oq_X12_first_85 (fun L48 gL48_3 kL48 => ?_)
          have gL48_5 : cv_get L48 5 = some (cv_i x7) := kL48 5 _ (by decide) (fun q => absurd q (by decide)) gL8_5
          have gL48_0 : cv_get L48 0 = some (cv_r 111) := kL48 0 _ (by decide) (fun q => absurd q (by decide)) gL8_0
          have gL48_1 : cv_get L48 1 = some (cv_i t) := kL48 1 _ (by decide) (fun q => absurd q (by decide)) gL8_1
          have gL48_2 : cv_get L48 2 = some (cv_i w) := kL48 2 _ (by decide) (fun _ => rfl) gL8_2
          have gL48_4 : cv_get L48 4 = some (cv_i mo) := kL48 4 _ (by decide) (fun q => absurd q (by decide)) gL8_4
          refine ex_ic oq_X12_first_86 (m := 0) (by decide) (fun x49 hx49 => ?_)
          refine ex_iswA oq_X12_first_87 (fun L50 gL50_6 kL50 => ?_)
          have gL50_3 : cv_get L50 3 = some (cv_i x7) := kL50 3 _ (by decide) (fun q => absurd q (by decide)) gL48_3
          have gL50_5 : cv_get L50 5 = some (cv_i x7) := kL50 5 _ (by decide) (fun _ => rfl) gL48_5
          have gL50_0 : cv_get L50 0 = some (cv_r 111) := kL50 0 _ (by decide) (fun q => absurd q (by decide)) gL48_0
          have gL50_1 : cv_get L50 1 = some (cv_i t) := kL50 1 _ (by decide) (fun q => absurd q (by decide)) gL48_1
          have gL50_2 : cv_get L50 2 = some (cv_i w) := kL50 2 _ (by decide) (fun q => absurd q (by decide)) gL48_2
          have gL50_4 : cv_get L50 4 = some (cv_i mo) := kL50 4 _ (by decide) (fun q => absurd q (by decide)) gL48_4
          refine ex_ilw oq_X12_first_89 gL50_6 ?_
          refine ex_ic oq_X12_first_91 (m := 4) (by decide) (fun x51 hx51 => ?_)
          refine ex_if oq_X12_first_92 (t := 115) rfl rfl (fun (c52 : x51.toInt ≤ x49.toInt) => ?_) (fun (c52 : ¬ (x51.toInt ≤ x49.toInt)) => ?_)
          · exfalso; omega
          · refine ex_al oq_X12_first_95 gL50_0 ?_
            refine ex_gf oq_X12_first_96 Th6 (k := 111) (d := 12) rfl rfl (fr_bestOrder Th6) ?_
            refine ex_ilw oq_X12_first_99 gL50_6 ?_
            refine ex_al oq_X12_first_101 gL50_0 ?_
            refine ex_gf oq_X12_first_102 Th6 (k := 111) (d := 12) rfl rfl (fr_order Th6) ?_
            refine ex_ilw oq_X12_first_105 gL50_6 ?_
            refine ex_ia1 oq_X12_first_107 Th6 (k := 145) (d := 84) (j := 0) rfl rfl (by omega) (by omega) (fun x53 hx53 lx53 ux53 => ?_)
            refine ex_iw1 oq_X12_first_108 Th6 (k := 146) (d := 85) (j := 0) rfl rfl (by omega) (by omega) ⟨by omega, by omega⟩ (fun h54 Th54 wh54 => ?_)
            have Fh54 : cw_Fr cw_Ds cw_sh kk_X12_first.2.2.2.2.2.1 h0 h54 := cw_Fr_tr Fh6 (cw_Fr_wrr wh54 (k := 146) (d := 85) rfl rfl (by decide +kernel))
            refine ex_incA oq_X12_first_109 (v := x49) (m := 1) gL50_6 (by decide) (by omega) (fun L56 x55 hx55 gL56_6 kL56 => ?_)
            have gL56_3 : cv_get L56 3 = some (cv_i x7) := kL56 3 _ (by decide) (fun q => absurd q (by decide)) gL50_3
            have gL56_5 : cv_get L56 5 = some (cv_i x7) := kL56 5 _ (by decide) (fun _ => rfl) gL50_5
            have gL56_0 : cv_get L56 0 = some (cv_r 111) := kL56 0 _ (by decide) (fun q => absurd q (by decide)) gL50_0
            have gL56_1 : cv_get L56 1 = some (cv_i t) := kL56 1 _ (by decide) (fun q => absurd q (by decide)) gL50_1
            have gL56_2 : cv_get L56 2 = some (cv_i w) := kL56 2 _ (by decide) (fun q => absurd q (by decide)) gL50_2
            have gL56_4 : cv_get L56 4 = some (cv_i mo) := kL56 4 _ (by decide) (fun q => absurd q (by decide)) gL50_4
            refine ex_go oq_X12_first_112 (t := 89) rfl rfl ?_
            refine ex_ilw oq_X12_first_89 gL56_6 ?_
            refine ex_ic oq_X12_first_91 (m := 4) (by decide) (fun x57 hx57 => ?_)
            refine ex_if oq_X12_first_92 (t := 115) rfl rfl (fun (c58 : x57.toInt ≤ x55.toInt) => ?_) (fun (c58 : ¬ (x57.toInt ≤ x55.toInt)) => ?_)
            · exfalso; omega
            · refine ex_al oq_X12_first_95 gL56_0 ?_
              refine ex_gf oq_X12_first_96 Th54 (k := 111) (d := 12) rfl rfl (fr_bestOrder Th54) ?_
              refine ex_ilw oq_X12_first_99 gL56_6 ?_
              refine ex_al oq_X12_first_101 gL56_0 ?_
              refine ex_gf oq_X12_first_102 Th54 (k := 111) (d := 12) rfl rfl (fr_order Th54) ?_
              refine ex_ilw oq_X12_first_105 gL56_6 ?_
              refine ex_ia1 oq_X12_first_107 Th54 (k := 145) (d := 84) (j := 1) rfl rfl (by omega) (by omega) (fun x59 hx59 lx59 ux59 => ?_)
              refine ex_iw1 oq_X12_first_108 Th54 (k := 146) (d := 85) (j := 1) rfl rfl (by omega) (by omega) ⟨by omega, by omega⟩ (fun h60 Th60 wh60 => ?_)
              have Fh60 : cw_Fr cw_Ds cw_sh kk_X12_first.2.2.2.2.2.1 h0 h60 := cw_Fr_tr Fh54 (cw_Fr_wrr wh60 (k := 146) (d := 85) rfl rfl (by decide +kernel))
              refine ex_incA oq_X12_first_109 (v := x55) (m := 1) gL56_6 (by decide) (by omega) (fun L62 x61 hx61 gL62_6 kL62 => ?_)
              have gL62_3 : cv_get L62 3 = some (cv_i x7) := kL62 3 _ (by decide) (fun q => absurd q (by decide)) gL56_3
              have gL62_5 : cv_get L62 5 = some (cv_i x7) := kL62 5 _ (by decide) (fun _ => rfl) gL56_5
              have gL62_0 : cv_get L62 0 = some (cv_r 111) := kL62 0 _ (by decide) (fun q => absurd q (by decide)) gL56_0
              have gL62_1 : cv_get L62 1 = some (cv_i t) := kL62 1 _ (by decide) (fun q => absurd q (by decide)) gL56_1
              have gL62_2 : cv_get L62 2 = some (cv_i w) := kL62 2 _ (by decide) (fun q => absurd q (by decide)) gL56_2
              have gL62_4 : cv_get L62 4 = some (cv_i mo) := kL62 4 _ (by decide) (fun q => absurd q (by decide)) gL56_4
              refine ex_go oq_X12_first_112 (t := 89) rfl rfl ?_
              refine ex_ilw oq_X12_first_89 gL62_6 ?_
              refine ex_ic oq_X12_first_91 (m := 4) (by decide) (fun x63 hx63 => ?_)
              refine ex_if oq_X12_first_92 (t := 115) rfl rfl (fun (c64 : x63.toInt ≤ x61.toInt) => ?_) (fun (c64 : ¬ (x63.toInt ≤ x61.toInt)) => ?_)
              · exfalso; omega
              · refine ex_al oq_X12_first_95 gL62_0 ?_
                refine ex_gf oq_X12_first_96 Th60 (k := 111) (d := 12) rfl rfl (fr_bestOrder Th60) ?_
                refine ex_ilw oq_X12_first_99 gL62_6 ?_
                refine ex_al oq_X12_first_101 gL62_0 ?_
                refine ex_gf oq_X12_first_102 Th60 (k := 111) (d := 12) rfl rfl (fr_order Th60) ?_
                refine ex_ilw oq_X12_first_105 gL62_6 ?_
                refine ex_ia1 oq_X12_first_107 Th60 (k := 145) (d := 84) (j := 2) rfl rfl (by omega) (by omega) (fun x65 hx65 lx65 ux65 => ?_)
                refine ex_iw1 oq_X12_first_108 Th60 (k := 146) (d := 85) (j := 2) rfl rfl (by omega) (by omega) ⟨by omega, by omega⟩ (fun h66 Th66 wh66 => ?_)
                have Fh66 : cw_Fr cw_Ds cw_sh kk_X12_first.2.2.2.2.2.1 h0 h66 := cw_Fr_tr Fh60 (cw_Fr_wrr wh66 (k := 146) (d := 85) rfl rfl (by decide +kernel))
                refine ex_incA oq_X12_first_109 (v := x61) (m := 1) gL62_6 (by decide) (by omega) (fun L68 x67 hx67 gL68_6 kL68 => ?_)
                have gL68_3 : cv_get L68 3 = some (cv_i x7) := kL68 3 _ (by decide) (fun q => absurd q (by decide)) gL62_3
                have gL68_5 : cv_get L68 5 = some (cv_i x7) := kL68 5 _ (by decide) (fun _ => rfl) gL62_5
                have gL68_0 : cv_get L68 0 = some (cv_r 111) := kL68 0 _ (by decide) (fun q => absurd q (by decide)) gL62_0
                have gL68_1 : cv_get L68 1 = some (cv_i t) := kL68 1 _ (by decide) (fun q => absurd q (by decide)) gL62_1
                have gL68_2 : cv_get L68 2 = some (cv_i w) := kL68 2 _ (by decide) (fun q => absurd q (by decide)) gL62_2
                have gL68_4 : cv_get L68 4 = some (cv_i mo) := kL68 4 _ (by decide) (fun q => absurd q (by decide)) gL62_4
                refine ex_go oq_X12_first_112 (t := 89) rfl rfl ?_
                refine ex_ilw oq_X12_first_89 gL68_6 ?_
                refine ex_ic oq_X12_first_91 (m := 4) (by decide) (fun x69 hx69 => ?_)
                refine ex_if oq_X12_first_92 (t := 115) rfl rfl (fun (c70 : x69.toInt ≤ x67.toInt) => ?_) (fun (c70 : ¬ (x69.toInt ≤ x67.toInt)) => ?_)
                · exfalso; omega
                · refine ex_al oq_X12_first_95 gL68_0 ?_
                  refine ex_gf oq_X12_first_96 Th66 (k := 111) (d := 12) rfl rfl (fr_bestOrder Th66) ?_
                  refine ex_ilw oq_X12_first_99 gL68_6 ?_
                  refine ex_al oq_X12_first_101 gL68_0 ?_
                  refine ex_gf oq_X12_first_102 Th66 (k := 111) (d := 12) rfl rfl (fr_order Th66) ?_
                  refine ex_ilw oq_X12_first_105 gL68_6 ?_
                  refine ex_ia1 oq_X12_first_107 Th66 (k := 145) (d := 84) (j := 3) rfl rfl (by omega) (by omega) (fun x71 hx71 lx71 ux71 => ?_)
                  refine ex_iw1 oq_X12_first_108 Th66 (k := 146) (d := 85) (j := 3) rfl rfl (by omega) (by omega) ⟨by omega, by omega⟩ (fun h72 Th72 wh72 => ?_)
                  have Fh72 : cw_Fr cw_Ds cw_sh kk_X12_first.2.2.2.2.2.1 h0 h72 := cw_Fr_tr Fh66 (cw_Fr_wrr wh72 (k := 146) (d := 85) rfl rfl (by decide +kernel))
                  refine ex_incA oq_X12_first_109 (v := x67) (m := 1) gL68_6 (by decide) (by omega) (fun L74 x73 hx73 gL74_6 kL74 => ?_)
                  have gL74_3 : cv_get L74 3 = some (cv_i x7) := kL74 3 _ (by decide) (fun q => absurd q (by decide)) gL68_3
                  have gL74_5 : cv_get L74 5 = some (cv_i x7) := kL74 5 _ (by decide) (fun _ => rfl) gL68_5
                  have gL74_0 : cv_get L74 0 = some (cv_r 111) := kL74 0 _ (by decide) (fun q => absurd q (by decide)) gL68_0
                  have gL74_1 : cv_get L74 1 = some (cv_i t) := kL74 1 _ (by decide) (fun q => absurd q (by decide)) gL68_1
                  have gL74_2 : cv_get L74 2 = some (cv_i w) := kL74 2 _ (by decide) (fun q => absurd q (by decide)) gL68_2
                  have gL74_4 : cv_get L74 4 = some (cv_i mo) := kL74 4 _ (by decide) (fun q => absurd q (by decide)) gL68_4
                  refine ex_go oq_X12_first_112 (t := 89) rfl rfl ?_
                  refine ex_ilw oq_X12_first_89 gL74_6 ?_
                  refine ex_ic oq_X12_first_91 (m := 4) (by decide) (fun x75 hx75 => ?_)
                  refine ex_if oq_X12_first_92 (t := 115) rfl rfl (fun (c76 : x75.toInt ≤ x73.toInt) => ?_) (fun (c76 : ¬ (x75.toInt ≤ x73.toInt)) => ?_)
                  · refine ex_al oq_X12_first_115 gL74_0 ?_
                    refine ex_gf oq_X12_first_116 Th72 (k := 111) (d := 12) rfl rfl (fr_order Th72) ?_
                    refine ex_al oq_X12_first_119 gL74_0 ?_
                    obtain ⟨x77, ax77, rx77, lx77, ux77⟩ := fi_gates Th72
                    refine ex_gf oq_X12_first_120 Th72 (k := 111) (d := 12) rfl rfl ax77 ?_
                    obtain ⟨hodh72, horh72⟩ := od_fr hodh6 (h' := h72) (fun i => ((ri_ne wh72 (.inl (by decide))).trans ((ri_ne wh66 (.inl (by decide))).trans ((ri_ne wh60 (.inl (by decide))).trans (ri_ne wh54 (.inl (by decide)))))))
                    have hG := fr_G Th72
                    refine ex_cs oq_X12_first_123 (by decide) (as := [cv_r 145, cv_i x77]) (stk := []) rfl rfl rfl ⟨rfl, rfl⟩ (R := fun o => ∃ (x : Int32) (hb : cv_H), o = (some (cv_i x), hb) ∧ cw_T G hb ∧ cw_Fr cw_Ds cw_sh kk_X12_nextOrder.2.2.2.2.2.1 h72 hb ∧ 0 ≤ x.toInt ∧ x.toInt ≤ 1 ∧ (x.toInt = 1 → od_p G hb ∧ od_r h72 < od_r hb)) (sp_nextOrder Th72 hG1 hG4 x77 (by omega) hodh72 (fun x h a1 a2 a3 a4 a5 => ⟨x, h, rfl, a1, a2, a3, a4, a5⟩)) (fun o ho => ?_)
                    obtain ⟨x79, h78, rfl, Th78, Ch78, lx79, ux79, dx79⟩ := ho
                    show cw_X _ _ _ _ _ [cv_i x79] h78
                    have Fh78 : cw_Fr cw_Ds cw_sh kk_X12_first.2.2.2.2.2.1 h0 h78 := cw_Fr_tr Fh72 (cw_Fr_mono (by decide +kernel) Ch78)
                    refine ex_iswA oq_X12_first_126 (fun L80 gL80_4 kL80 => ?_)
                    have gL80_6 : cv_get L80 6 = some (cv_i x73) := kL80 6 _ (by decide) (fun q => absurd q (by decide)) gL74_6
                    have gL80_3 : cv_get L80 3 = some (cv_i x7) := kL80 3 _ (by decide) (fun _ => rfl) gL74_3
                    have gL80_5 : cv_get L80 5 = some (cv_i x7) := kL80 5 _ (by decide) (fun q => absurd q (by decide)) gL74_5
                    have gL80_0 : cv_get L80 0 = some (cv_r 111) := kL80 0 _ (by decide) (fun q => absurd q (by decide)) gL74_0
                    have gL80_1 : cv_get L80 1 = some (cv_i t) := kL80 1 _ (by decide) (fun q => absurd q (by decide)) gL74_1
                    have gL80_2 : cv_get L80 2 = some (cv_i w) := kL80 2 _ (by decide) (fun q => absurd q (by decide)) gL74_2
                    refine ex_go oq_X12_first_128 (t := 61) rfl rfl ?_
                    have bb := od_b Th78
                    rcases (by omega : x79.toInt = 0 ∨ x79.toInt = 1) with hx0 | hx1
                    · exfalso; omega -- x7 x79 h78 Th78 Fh78 L80 gL80_0 gL80_1 gL80_2 gL80_3 gL80_4 lx79 ux79 (.inl hx0) (.inl hx0)
                    · exfalso; omega -- x7 x79 h78 Th78 Fh78 L80 gL80_0 gL80_1 gL80_2 gL80_3 gL80_4 lx79 ux79 (.inr (dx79 hx1).1) (.inr (by have := (dx79 hx1).2; omega))
                  · exfalso; omega
  | succ N ih =>
    intro bs mo h Th Fh L q0 q1 q2 q3 q4 m0 m1 hmo hN
    have bb0 := od_b Th
    refine ex_ilw oq_X12_first_61 q4 ?_
    refine ex_if0 oq_X12_first_63 (t := 131) rfl rfl (fun (c1 : mo.toInt = 0) => ?_) (fun (c1 : ¬ (mo.toInt = 0)) => ?_)
    · refine ex_il oq_X12_first_131 q2 ?_
      refine ex_if0 oq_X12_first_132 (t := 139) rfl rfl (fun (c2 : ¬ w.toInt = 0) => ?_) (fun (c2 : ¬ (¬ w.toInt = 0)) => ?_)
      · refine ex_al oq_X12_first_139 q0 ?_
        refine ex_gf oq_X12_first_140 Th (k := 111) (d := 12) rfl rfl (fr_bestOrder Th) ?_
        refine ex_il oq_X12_first_143 q2 ?_
        refine ex_ic oq_X12_first_144 (m := 1) (by decide) (fun x3 hx3 => ?_)
        refine ex_sub oq_X12_first_145 (by omega) (fun x4 hx4 => ?_)
        refine ex_ia1 oq_X12_first_146 Th (k := 146) (d := 85) (j := x4.toInt.toNat) rfl rfl (by omega) (by omega) (fun x5 hx5 lx5 ux5 => ?_)
        exact ex_reti oq_X12_first_147 rfl (hfin x5 h Th Fh)
      · refine ex_il oq_X12_first_135 q3 ?_
        refine ex_go oq_X12_first_136 (t := 147) rfl rfl ?_
        exact ex_reti oq_X12_first_147 rfl (hfin bs h Th Fh)
    · have hod : od_p G h := hmo.resolve_left (by omega)
      refine ex_al oq_X12_first_66 q0 ?_
      refine ex_il oq_X12_first_67 q1 ?_
      have Ph : cw_PP G h := pp_fr0 (by decide +kernel) hP0 Fh
      refine ex_cv oq_X12_first_68 (by decide) Th (k := 111) (d := 12) (as := [cv_i t]) (stk := []) rfl rfl rfl rfl rfl rfl ⟨rfl, rfl⟩ (R := fun o => ∃ (x : Int32) (hb : cv_H), o = (some (cv_i x), hb) ∧ cw_T G hb ∧ cw_Fr cw_Ds cw_sh kk_X12_sumBy.2.2.2.2.2.1 h hb) (sp_sumBy (cw_Xok_no2 hX) hl5 hl3 hdr hwa Th Ph hod t t0 t1 (fun x h a1 a2 => ⟨x, h, rfl, a1, a2⟩)) (fun o ho => ?_)
      obtain ⟨x7, h6, rfl, Th6, Ch6⟩ := ho
      show cw_X _ _ _ _ _ [cv_i x7] h6
      have Fh6 : cw_Fr cw_Ds cw_sh kk_X12_first.2.2.2.2.2.1 h0 h6 := cw_Fr_tr Fh (cw_Fr_mono (by decide +kernel) Ch6)
      obtain ⟨hodh6, horh6⟩ := od_fr hod (fun i => ri_frr Ch6 (k := 145) (d := 84) (i := i) rfl rfl (by decide +kernel))
      refine ex_iswA oq_X12_first_71 (fun L8 gL8_5 kL8 => ?_)
      have gL8_0 : cv_get L8 0 = some (cv_r 111) := kL8 0 _ (by decide) (fun q => absurd q (by decide)) q0
      have gL8_1 : cv_get L8 1 = some (cv_i t) := kL8 1 _ (by decide) (fun q => absurd q (by decide)) q1
      have gL8_2 : cv_get L8 2 = some (cv_i w) := kL8 2 _ (by decide) (fun q => absurd q (by decide)) q2
      have gL8_3 : cv_get L8 3 = some (cv_i bs) := kL8 3 _ (by decide) (fun q => absurd q (by decide)) q3
      have gL8_4 : cv_get L8 4 = some (cv_i mo) := kL8 4 _ (by decide) (fun _ => rfl) q4
      refine ex_il oq_X12_first_73 gL8_3 ?_
      refine ex_if0 oq_X12_first_74 (t := 83) rfl rfl (fun (c9 : bs.toInt < 0) => ?_) (fun (c9 : ¬ (bs.toInt < 0)) => ?_)
      · refine ex_ilw oq_X12_first_83 gL8_5 ?_
        refine ex_isA oq_X12_first_85 (fun L10 gL10_3 kL10 => ?_)
        have gL10_5 : cv_get L10 5 = some (cv_i x7) := kL10 5 _ (by decide) (fun q => absurd q (by decide)) gL8_5
        have gL10_0 : cv_get L10 0 = some (cv_r 111) := kL10 0 _ (by decide) (fun q => absurd q (by decide)) gL8_0
        have gL10_1 : cv_get L10 1 = some (cv_i t) := kL10 1 _ (by decide) (fun q => absurd q (by decide)) gL8_1
        have gL10_2 : cv_get L10 2 = some (cv_i w) := kL10 2 _ (by decide) (fun _ => rfl) gL8_2
        have gL10_4 : cv_get L10 4 = some (cv_i mo) := kL10 4 _ (by decide) (fun q => absurd q (by decide)) gL8_4
        refine ex_ic oq_X12_first_86 (m := 0) (by decide) (fun x11 hx11 => ?_)
        refine ex_iswA oq_X12_first_87 (fun L12 gL12_6 kL12 => ?_)
        have gL12_3 : cv_get L12 3 = some (cv_i x7) := kL12 3 _ (by decide) (fun q => absurd q (by decide)) gL10_3
        have gL12_5 : cv_get L12 5 = some (cv_i x7) := kL12 5 _ (by decide) (fun _ => rfl) gL10_5
        have gL12_0 : cv_get L12 0 = some (cv_r 111) := kL12 0 _ (by decide) (fun q => absurd q (by decide)) gL10_0
        have gL12_1 : cv_get L12 1 = some (cv_i t) := kL12 1 _ (by decide) (fun q => absurd q (by decide)) gL10_1
        have gL12_2 : cv_get L12 2 = some (cv_i w) := kL12 2 _ (by decide) (fun q => absurd q (by decide)) gL10_2
        have gL12_4 : cv_get L12 4 = some (cv_i mo) := kL12 4 _ (by decide) (fun q => absurd q (by decide)) gL10_4
        refine ex_ilw oq_X12_first_89 gL12_6 ?_
        refine ex_ic oq_X12_first_91 (m := 4) (by decide) (fun x13 hx13 => ?_)
        refine ex_if oq_X12_first_92 (t := 115) rfl rfl (fun (c14 : x13.toInt ≤ x11.toInt) => ?_) (fun (c14 : ¬ (x13.toInt ≤ x11.toInt)) => ?_)
        · exfalso; omega
        · refine ex_al oq_X12_first_95 gL12_0 ?_
          refine ex_gf oq_X12_first_96 Th6 (k := 111) (d := 12) rfl rfl (fr_bestOrder Th6) ?_
          refine ex_ilw oq_X12_first_99 gL12_6 ?_
          refine ex_al oq_X12_first_101 gL12_0 ?_
          refine ex_gf oq_X12_first_102 Th6 (k := 111) (d := 12) rfl rfl (fr_order Th6) ?_
          refine ex_ilw oq_X12_first_105 gL12_6 ?_
          refine ex_ia1 oq_X12_first_107 Th6 (k := 145) (d := 84) (j := 0) rfl rfl (by omega) (by omega) (fun x15 hx15 lx15 ux15 => ?_)
          refine ex_iw1 oq_X12_first_108 Th6 (k := 146) (d := 85) (j := 0) rfl rfl (by omega) (by omega) ⟨by omega, by omega⟩ (fun h16 Th16 wh16 => ?_)
          have Fh16 : cw_Fr cw_Ds cw_sh kk_X12_first.2.2.2.2.2.1 h0 h16 := cw_Fr_tr Fh6 (cw_Fr_wrr wh16 (k := 146) (d := 85) rfl rfl (by decide +kernel))
          refine ex_incA oq_X12_first_109 (v := x11) (m := 1) gL12_6 (by decide) (by omega) (fun L18 x17 hx17 gL18_6 kL18 => ?_)
          have gL18_3 : cv_get L18 3 = some (cv_i x7) := kL18 3 _ (by decide) (fun q => absurd q (by decide)) gL12_3
          have gL18_5 : cv_get L18 5 = some (cv_i x7) := kL18 5 _ (by decide) (fun _ => rfl) gL12_5
          have gL18_0 : cv_get L18 0 = some (cv_r 111) := kL18 0 _ (by decide) (fun q => absurd q (by decide)) gL12_0
          have gL18_1 : cv_get L18 1 = some (cv_i t) := kL18 1 _ (by decide) (fun q => absurd q (by decide)) gL12_1
          have gL18_2 : cv_get L18 2 = some (cv_i w) := kL18 2 _ (by decide) (fun q => absurd q (by decide)) gL12_2
          have gL18_4 : cv_get L18 4 = some (cv_i mo) := kL18 4 _ (by decide) (fun q => absurd q (by decide)) gL12_4
          refine ex_go oq_X12_first_112 (t := 89) rfl rfl ?_
          refine ex_ilw oq_X12_first_89 gL18_6 ?_
          refine ex_ic oq_X12_first_91 (m := 4) (by decide) (fun x19 hx19 => ?_)
          refine ex_if oq_X12_first_92 (t := 115) rfl rfl (fun (c20 : x19.toInt ≤ x17.toInt) => ?_) (fun (c20 : ¬ (x19.toInt ≤ x17.toInt)) => ?_)
          · exfalso; omega
          · refine ex_al oq_X12_first_95 gL18_0 ?_
            refine ex_gf oq_X12_first_96 Th16 (k := 111) (d := 12) rfl rfl (fr_bestOrder Th16) ?_
            refine ex_ilw oq_X12_first_99 gL18_6 ?_
            refine ex_al oq_X12_first_101 gL18_0 ?_
            refine ex_gf oq_X12_first_102 Th16 (k := 111) (d := 12) rfl rfl (fr_order Th16) ?_
            refine ex_ilw oq_X12_first_105 gL18_6 ?_
            refine ex_ia1 oq_X12_first_107 Th16 (k := 145) (d := 84) (j := 1) rfl rfl (by omega) (by omega) (fun x21 hx21 lx21 ux21 => ?_)
            refine ex_iw1 oq_X12_first_108 Th16 (k := 146) (d := 85) (j := 1) rfl rfl (by omega) (by omega) ⟨by omega, by omega⟩ (fun h22 Th22 wh22 => ?_)
            have Fh22 : cw_Fr cw_Ds cw_sh kk_X12_first.2.2.2.2.2.1 h0 h22 := cw_Fr_tr Fh16 (cw_Fr_wrr wh22 (k := 146) (d := 85) rfl rfl (by decide +kernel))
            refine ex_incA oq_X12_first_109 (v := x17) (m := 1) gL18_6 (by decide) (by omega) (fun L24 x23 hx23 gL24_6 kL24 => ?_)
            have gL24_3 : cv_get L24 3 = some (cv_i x7) := kL24 3 _ (by decide) (fun q => absurd q (by decide)) gL18_3
            have gL24_5 : cv_get L24 5 = some (cv_i x7) := kL24 5 _ (by decide) (fun _ => rfl) gL18_5
            have gL24_0 : cv_get L24 0 = some (cv_r 111) := kL24 0 _ (by decide) (fun q => absurd q (by decide)) gL18_0
            have gL24_1 : cv_get L24 1 = some (cv_i t) := kL24 1 _ (by decide) (fun q => absurd q (by decide)) gL18_1
            have gL24_2 : cv_get L24 2 = some (cv_i w) := kL24 2 _ (by decide) (fun q => absurd q (by decide)) gL18_2
            have gL24_4 : cv_get L24 4 = some (cv_i mo) := kL24 4 _ (by decide) (fun q => absurd q (by decide)) gL18_4
            refine ex_go oq_X12_first_112 (t := 89) rfl rfl ?_
            refine ex_ilw oq_X12_first_89 gL24_6 ?_
            refine ex_ic oq_X12_first_91 (m := 4) (by decide) (fun x25 hx25 => ?_)
            refine ex_if oq_X12_first_92 (t := 115) rfl rfl (fun (c26 : x25.toInt ≤ x23.toInt) => ?_) (fun (c26 : ¬ (x25.toInt ≤ x23.toInt)) => ?_)
            · exfalso; omega
            · refine ex_al oq_X12_first_95 gL24_0 ?_
              refine ex_gf oq_X12_first_96 Th22 (k := 111) (d := 12) rfl rfl (fr_bestOrder Th22) ?_
              refine ex_ilw oq_X12_first_99 gL24_6 ?_
              refine ex_al oq_X12_first_101 gL24_0 ?_
              refine ex_gf oq_X12_first_102 Th22 (k := 111) (d := 12) rfl rfl (fr_order Th22) ?_
              refine ex_ilw oq_X12_first_105 gL24_6 ?_
              refine ex_ia1 oq_X12_first_107 Th22 (k := 145) (d := 84) (j := 2) rfl rfl (by omega) (by omega) (fun x27 hx27 lx27 ux27 => ?_)
              refine ex_iw1 oq_X12_first_108 Th22 (k := 146) (d := 85) (j := 2) rfl rfl (by omega) (by omega) ⟨by omega, by omega⟩ (fun h28 Th28 wh28 => ?_)
              have Fh28 : cw_Fr cw_Ds cw_sh kk_X12_first.2.2.2.2.2.1 h0 h28 := cw_Fr_tr Fh22 (cw_Fr_wrr wh28 (k := 146) (d := 85) rfl rfl (by decide +kernel))
              refine ex_incA oq_X12_first_109 (v := x23) (m := 1) gL24_6 (by decide) (by omega) (fun L30 x29 hx29 gL30_6 kL30 => ?_)
              have gL30_3 : cv_get L30 3 = some (cv_i x7) := kL30 3 _ (by decide) (fun q => absurd q (by decide)) gL24_3
              have gL30_5 : cv_get L30 5 = some (cv_i x7) := kL30 5 _ (by decide) (fun _ => rfl) gL24_5
              have gL30_0 : cv_get L30 0 = some (cv_r 111) := kL30 0 _ (by decide) (fun q => absurd q (by decide)) gL24_0
              have gL30_1 : cv_get L30 1 = some (cv_i t) := kL30 1 _ (by decide) (fun q => absurd q (by decide)) gL24_1
              have gL30_2 : cv_get L30 2 = some (cv_i w) := kL30 2 _ (by decide) (fun q => absurd q (by decide)) gL24_2
              have gL30_4 : cv_get L30 4 = some (cv_i mo) := kL30 4 _ (by decide) (fun q => absurd q (by decide)) gL24_4
              refine ex_go oq_X12_first_112 (t := 89) rfl rfl ?_
              refine ex_ilw oq_X12_first_89 gL30_6 ?_
              refine ex_ic oq_X12_first_91 (m := 4) (by decide) (fun x31 hx31 => ?_)
              refine ex_if oq_X12_first_92 (t := 115) rfl rfl (fun (c32 : x31.toInt ≤ x29.toInt) => ?_) (fun (c32 : ¬ (x31.toInt ≤ x29.toInt)) => ?_)
              · exfalso; omega
              · refine ex_al oq_X12_first_95 gL30_0 ?_
                refine ex_gf oq_X12_first_96 Th28 (k := 111) (d := 12) rfl rfl (fr_bestOrder Th28) ?_
                refine ex_ilw oq_X12_first_99 gL30_6 ?_
                refine ex_al oq_X12_first_101 gL30_0 ?_
                refine ex_gf oq_X12_first_102 Th28 (k := 111) (d := 12) rfl rfl (fr_order Th28) ?_
                refine ex_ilw oq_X12_first_105 gL30_6 ?_
                refine ex_ia1 oq_X12_first_107 Th28 (k := 145) (d := 84) (j := 3) rfl rfl (by omega) (by omega) (fun x33 hx33 lx33 ux33 => ?_)
                refine ex_iw1 oq_X12_first_108 Th28 (k := 146) (d := 85) (j := 3) rfl rfl (by omega) (by omega) ⟨by omega, by omega⟩ (fun h34 Th34 wh34 => ?_)
                have Fh34 : cw_Fr cw_Ds cw_sh kk_X12_first.2.2.2.2.2.1 h0 h34 := cw_Fr_tr Fh28 (cw_Fr_wrr wh34 (k := 146) (d := 85) rfl rfl (by decide +kernel))
                refine ex_incA oq_X12_first_109 (v := x29) (m := 1) gL30_6 (by decide) (by omega) (fun L36 x35 hx35 gL36_6 kL36 => ?_)
                have gL36_3 : cv_get L36 3 = some (cv_i x7) := kL36 3 _ (by decide) (fun q => absurd q (by decide)) gL30_3
                have gL36_5 : cv_get L36 5 = some (cv_i x7) := kL36 5 _ (by decide) (fun _ => rfl) gL30_5
                have gL36_0 : cv_get L36 0 = some (cv_r 111) := kL36 0 _ (by decide) (fun q => absurd q (by decide)) gL30_0
                have gL36_1 : cv_get L36 1 = some (cv_i t) := kL36 1 _ (by decide) (fun q => absurd q (by decide)) gL30_1
                have gL36_2 : cv_get L36 2 = some (cv_i w) := kL36 2 _ (by decide) (fun q => absurd q (by decide)) gL30_2
                have gL36_4 : cv_get L36 4 = some (cv_i mo) := kL36 4 _ (by decide) (fun q => absurd q (by decide)) gL30_4
                refine ex_go oq_X12_first_112 (t := 89) rfl rfl ?_
                refine ex_ilw oq_X12_first_89 gL36_6 ?_
                refine ex_ic oq_X12_first_91 (m := 4) (by decide) (fun x37 hx37 => ?_)
                refine ex_if oq_X12_first_92 (t := 115) rfl rfl (fun (c38 : x37.toInt ≤ x35.toInt) => ?_) (fun (c38 : ¬ (x37.toInt ≤ x35.toInt)) => ?_)
                · refine ex_al oq_X12_first_115 gL36_0 ?_
                  refine ex_gf oq_X12_first_116 Th34 (k := 111) (d := 12) rfl rfl (fr_order Th34) ?_
                  refine ex_al oq_X12_first_119 gL36_0 ?_
                  obtain ⟨x39, ax39, rx39, lx39, ux39⟩ := fi_gates Th34
                  refine ex_gf oq_X12_first_120 Th34 (k := 111) (d := 12) rfl rfl ax39 ?_
                  obtain ⟨hodh34, horh34⟩ := od_fr hodh6 (h' := h34) (fun i => ((ri_ne wh34 (.inl (by decide))).trans ((ri_ne wh28 (.inl (by decide))).trans ((ri_ne wh22 (.inl (by decide))).trans (ri_ne wh16 (.inl (by decide)))))))
                  have hG := fr_G Th34
                  refine ex_cs oq_X12_first_123 (by decide) (as := [cv_r 145, cv_i x39]) (stk := []) rfl rfl rfl ⟨rfl, rfl⟩ (R := fun o => ∃ (x : Int32) (hb : cv_H), o = (some (cv_i x), hb) ∧ cw_T G hb ∧ cw_Fr cw_Ds cw_sh kk_X12_nextOrder.2.2.2.2.2.1 h34 hb ∧ 0 ≤ x.toInt ∧ x.toInt ≤ 1 ∧ (x.toInt = 1 → od_p G hb ∧ od_r h34 < od_r hb)) (sp_nextOrder Th34 hG1 hG4 x39 (by omega) hodh34 (fun x h a1 a2 a3 a4 a5 => ⟨x, h, rfl, a1, a2, a3, a4, a5⟩)) (fun o ho => ?_)
                  obtain ⟨x41, h40, rfl, Th40, Ch40, lx41, ux41, dx41⟩ := ho
                  show cw_X _ _ _ _ _ [cv_i x41] h40
                  have Fh40 : cw_Fr cw_Ds cw_sh kk_X12_first.2.2.2.2.2.1 h0 h40 := cw_Fr_tr Fh34 (cw_Fr_mono (by decide +kernel) Ch40)
                  refine ex_iswA oq_X12_first_126 (fun L42 gL42_4 kL42 => ?_)
                  have gL42_6 : cv_get L42 6 = some (cv_i x35) := kL42 6 _ (by decide) (fun q => absurd q (by decide)) gL36_6
                  have gL42_3 : cv_get L42 3 = some (cv_i x7) := kL42 3 _ (by decide) (fun _ => rfl) gL36_3
                  have gL42_5 : cv_get L42 5 = some (cv_i x7) := kL42 5 _ (by decide) (fun q => absurd q (by decide)) gL36_5
                  have gL42_0 : cv_get L42 0 = some (cv_r 111) := kL42 0 _ (by decide) (fun q => absurd q (by decide)) gL36_0
                  have gL42_1 : cv_get L42 1 = some (cv_i t) := kL42 1 _ (by decide) (fun q => absurd q (by decide)) gL36_1
                  have gL42_2 : cv_get L42 2 = some (cv_i w) := kL42 2 _ (by decide) (fun q => absurd q (by decide)) gL36_2
                  refine ex_go oq_X12_first_128 (t := 61) rfl rfl ?_
                  have bb := od_b Th40
                  rcases (by omega : x41.toInt = 0 ∨ x41.toInt = 1) with hx0 | hx1
                  · exact ih x7 x41 h40 Th40 Fh40 L42 gL42_0 gL42_1 gL42_2 gL42_3 gL42_4 lx41 ux41 (.inl hx0) (.inl hx0)
                  · exact ih x7 x41 h40 Th40 Fh40 L42 gL42_0 gL42_1 gL42_2 gL42_3 gL42_4 lx41 ux41 (.inr (dx41 hx1).1) (.inr (by have := (dx41 hx1).2; omega))
                · exfalso; omega
      · refine ex_ilw oq_X12_first_77 gL8_5 ?_
        refine ex_il oq_X12_first_79 gL8_3 ?_
        refine ex_if oq_X12_first_80 (t := 115) rfl rfl (fun (c43 : bs.toInt ≤ x7.toInt) => ?_) (fun (c43 : ¬ (bs.toInt ≤ x7.toInt)) => ?_)
        · refine ex_al oq_X12_first_115 gL8_0 ?_
          refine ex_gf oq_X12_first_116 Th6 (k := 111) (d := 12) rfl rfl (fr_order Th6) ?_
          refine ex_al oq_X12_first_119 gL8_0 ?_
          obtain ⟨x44, ax44, rx44, lx44, ux44⟩ := fi_gates Th6
          refine ex_gf oq_X12_first_120 Th6 (k := 111) (d := 12) rfl rfl ax44 ?_
          have hG := fr_G Th6
          refine ex_cs oq_X12_first_123 (by decide) (as := [cv_r 145, cv_i x44]) (stk := []) rfl rfl rfl ⟨rfl, rfl⟩ (R := fun o => ∃ (x : Int32) (hb : cv_H), o = (some (cv_i x), hb) ∧ cw_T G hb ∧ cw_Fr cw_Ds cw_sh kk_X12_nextOrder.2.2.2.2.2.1 h6 hb ∧ 0 ≤ x.toInt ∧ x.toInt ≤ 1 ∧ (x.toInt = 1 → od_p G hb ∧ od_r h6 < od_r hb)) (sp_nextOrder Th6 hG1 hG4 x44 (by omega) hodh6 (fun x h a1 a2 a3 a4 a5 => ⟨x, h, rfl, a1, a2, a3, a4, a5⟩)) (fun o ho => ?_)
          obtain ⟨x46, h45, rfl, Th45, Ch45, lx46, ux46, dx46⟩ := ho
          show cw_X _ _ _ _ _ [cv_i x46] h45
          have Fh45 : cw_Fr cw_Ds cw_sh kk_X12_first.2.2.2.2.2.1 h0 h45 := cw_Fr_tr Fh6 (cw_Fr_mono (by decide +kernel) Ch45)
          refine ex_iswA oq_X12_first_126 (fun L47 gL47_4 kL47 => ?_)
          have gL47_5 : cv_get L47 5 = some (cv_i x7) := kL47 5 _ (by decide) (fun q => absurd q (by decide)) gL8_5
          have gL47_0 : cv_get L47 0 = some (cv_r 111) := kL47 0 _ (by decide) (fun q => absurd q (by decide)) gL8_0
          have gL47_1 : cv_get L47 1 = some (cv_i t) := kL47 1 _ (by decide) (fun q => absurd q (by decide)) gL8_1
          have gL47_2 : cv_get L47 2 = some (cv_i w) := kL47 2 _ (by decide) (fun q => absurd q (by decide)) gL8_2
          have gL47_3 : cv_get L47 3 = some (cv_i bs) := kL47 3 _ (by decide) (fun _ => rfl) gL8_3
          refine ex_go oq_X12_first_128 (t := 61) rfl rfl ?_
          have bb := od_b Th45
          rcases (by omega : x46.toInt = 0 ∨ x46.toInt = 1) with hx0 | hx1
          · exact ih bs x46 h45 Th45 Fh45 L47 gL47_0 gL47_1 gL47_2 gL47_3 gL47_4 lx46 ux46 (.inl hx0) (.inl hx0)
          · exact ih bs x46 h45 Th45 Fh45 L47 gL47_0 gL47_1 gL47_2 gL47_3 gL47_4 lx46 ux46 (.inr (dx46 hx1).1) (.inr (by have := (dx46 hx1).2; omega))
        · refine ex_ilw oq_X12_first_83 gL8_5 ?_
          refine ex_isA oq_X12_first_85 (fun L48 gL48_3 kL48 => ?_)
          have gL48_5 : cv_get L48 5 = some (cv_i x7) := kL48 5 _ (by decide) (fun q => absurd q (by decide)) gL8_5
          have gL48_0 : cv_get L48 0 = some (cv_r 111) := kL48 0 _ (by decide) (fun q => absurd q (by decide)) gL8_0
          have gL48_1 : cv_get L48 1 = some (cv_i t) := kL48 1 _ (by decide) (fun q => absurd q (by decide)) gL8_1
          have gL48_2 : cv_get L48 2 = some (cv_i w) := kL48 2 _ (by decide) (fun _ => rfl) gL8_2
          have gL48_4 : cv_get L48 4 = some (cv_i mo) := kL48 4 _ (by decide) (fun q => absurd q (by decide)) gL8_4
          refine ex_ic oq_X12_first_86 (m := 0) (by decide) (fun x49 hx49 => ?_)
          refine ex_iswA oq_X12_first_87 (fun L50 gL50_6 kL50 => ?_)
          have gL50_3 : cv_get L50 3 = some (cv_i x7) := kL50 3 _ (by decide) (fun q => absurd q (by decide)) gL48_3
          have gL50_5 : cv_get L50 5 = some (cv_i x7) := kL50 5 _ (by decide) (fun _ => rfl) gL48_5
          have gL50_0 : cv_get L50 0 = some (cv_r 111) := kL50 0 _ (by decide) (fun q => absurd q (by decide)) gL48_0
          have gL50_1 : cv_get L50 1 = some (cv_i t) := kL50 1 _ (by decide) (fun q => absurd q (by decide)) gL48_1
          have gL50_2 : cv_get L50 2 = some (cv_i w) := kL50 2 _ (by decide) (fun q => absurd q (by decide)) gL48_2
          have gL50_4 : cv_get L50 4 = some (cv_i mo) := kL50 4 _ (by decide) (fun q => absurd q (by decide)) gL48_4
          refine ex_ilw oq_X12_first_89 gL50_6 ?_
          refine ex_ic oq_X12_first_91 (m := 4) (by decide) (fun x51 hx51 => ?_)
          refine ex_if oq_X12_first_92 (t := 115) rfl rfl (fun (c52 : x51.toInt ≤ x49.toInt) => ?_) (fun (c52 : ¬ (x51.toInt ≤ x49.toInt)) => ?_)
          · exfalso; omega
          · refine ex_al oq_X12_first_95 gL50_0 ?_
            refine ex_gf oq_X12_first_96 Th6 (k := 111) (d := 12) rfl rfl (fr_bestOrder Th6) ?_
            refine ex_ilw oq_X12_first_99 gL50_6 ?_
            refine ex_al oq_X12_first_101 gL50_0 ?_
            refine ex_gf oq_X12_first_102 Th6 (k := 111) (d := 12) rfl rfl (fr_order Th6) ?_
            refine ex_ilw oq_X12_first_105 gL50_6 ?_
            refine ex_ia1 oq_X12_first_107 Th6 (k := 145) (d := 84) (j := 0) rfl rfl (by omega) (by omega) (fun x53 hx53 lx53 ux53 => ?_)
            refine ex_iw1 oq_X12_first_108 Th6 (k := 146) (d := 85) (j := 0) rfl rfl (by omega) (by omega) ⟨by omega, by omega⟩ (fun h54 Th54 wh54 => ?_)
            have Fh54 : cw_Fr cw_Ds cw_sh kk_X12_first.2.2.2.2.2.1 h0 h54 := cw_Fr_tr Fh6 (cw_Fr_wrr wh54 (k := 146) (d := 85) rfl rfl (by decide +kernel))
            refine ex_incA oq_X12_first_109 (v := x49) (m := 1) gL50_6 (by decide) (by omega) (fun L56 x55 hx55 gL56_6 kL56 => ?_)
            have gL56_3 : cv_get L56 3 = some (cv_i x7) := kL56 3 _ (by decide) (fun q => absurd q (by decide)) gL50_3
            have gL56_5 : cv_get L56 5 = some (cv_i x7) := kL56 5 _ (by decide) (fun _ => rfl) gL50_5
            have gL56_0 : cv_get L56 0 = some (cv_r 111) := kL56 0 _ (by decide) (fun q => absurd q (by decide)) gL50_0
            have gL56_1 : cv_get L56 1 = some (cv_i t) := kL56 1 _ (by decide) (fun q => absurd q (by decide)) gL50_1
            have gL56_2 : cv_get L56 2 = some (cv_i w) := kL56 2 _ (by decide) (fun q => absurd q (by decide)) gL50_2
            have gL56_4 : cv_get L56 4 = some (cv_i mo) := kL56 4 _ (by decide) (fun q => absurd q (by decide)) gL50_4
            refine ex_go oq_X12_first_112 (t := 89) rfl rfl ?_
            refine ex_ilw oq_X12_first_89 gL56_6 ?_
            refine ex_ic oq_X12_first_91 (m := 4) (by decide) (fun x57 hx57 => ?_)
            refine ex_if oq_X12_first_92 (t := 115) rfl rfl (fun (c58 : x57.toInt ≤ x55.toInt) => ?_) (fun (c58 : ¬ (x57.toInt ≤ x55.toInt)) => ?_)
            · exfalso; omega
            · refine ex_al oq_X12_first_95 gL56_0 ?_
              refine ex_gf oq_X12_first_96 Th54 (k := 111) (d := 12) rfl rfl (fr_bestOrder Th54) ?_
              refine ex_ilw oq_X12_first_99 gL56_6 ?_
              refine ex_al oq_X12_first_101 gL56_0 ?_
              refine ex_gf oq_X12_first_102 Th54 (k := 111) (d := 12) rfl rfl (fr_order Th54) ?_
              refine ex_ilw oq_X12_first_105 gL56_6 ?_
              refine ex_ia1 oq_X12_first_107 Th54 (k := 145) (d := 84) (j := 1) rfl rfl (by omega) (by omega) (fun x59 hx59 lx59 ux59 => ?_)
              refine ex_iw1 oq_X12_first_108 Th54 (k := 146) (d := 85) (j := 1) rfl rfl (by omega) (by omega) ⟨by omega, by omega⟩ (fun h60 Th60 wh60 => ?_)
              have Fh60 : cw_Fr cw_Ds cw_sh kk_X12_first.2.2.2.2.2.1 h0 h60 := cw_Fr_tr Fh54 (cw_Fr_wrr wh60 (k := 146) (d := 85) rfl rfl (by decide +kernel))
              refine ex_incA oq_X12_first_109 (v := x55) (m := 1) gL56_6 (by decide) (by omega) (fun L62 x61 hx61 gL62_6 kL62 => ?_)
              have gL62_3 : cv_get L62 3 = some (cv_i x7) := kL62 3 _ (by decide) (fun q => absurd q (by decide)) gL56_3
              have gL62_5 : cv_get L62 5 = some (cv_i x7) := kL62 5 _ (by decide) (fun _ => rfl) gL56_5
              have gL62_0 : cv_get L62 0 = some (cv_r 111) := kL62 0 _ (by decide) (fun q => absurd q (by decide)) gL56_0
              have gL62_1 : cv_get L62 1 = some (cv_i t) := kL62 1 _ (by decide) (fun q => absurd q (by decide)) gL56_1
              have gL62_2 : cv_get L62 2 = some (cv_i w) := kL62 2 _ (by decide) (fun q => absurd q (by decide)) gL56_2
              have gL62_4 : cv_get L62 4 = some (cv_i mo) := kL62 4 _ (by decide) (fun q => absurd q (by decide)) gL56_4
              refine ex_go oq_X12_first_112 (t := 89) rfl rfl ?_
              refine ex_ilw oq_X12_first_89 gL62_6 ?_
              refine ex_ic oq_X12_first_91 (m := 4) (by decide) (fun x63 hx63 => ?_)
              refine ex_if oq_X12_first_92 (t := 115) rfl rfl (fun (c64 : x63.toInt ≤ x61.toInt) => ?_) (fun (c64 : ¬ (x63.toInt ≤ x61.toInt)) => ?_)
              · exfalso; omega
              · refine ex_al oq_X12_first_95 gL62_0 ?_
                refine ex_gf oq_X12_first_96 Th60 (k := 111) (d := 12) rfl rfl (fr_bestOrder Th60) ?_
                refine ex_ilw oq_X12_first_99 gL62_6 ?_
                refine ex_al oq_X12_first_101 gL62_0 ?_
                refine ex_gf oq_X12_first_102 Th60 (k := 111) (d := 12) rfl rfl (fr_order Th60) ?_
                refine ex_ilw oq_X12_first_105 gL62_6 ?_
                refine ex_ia1 oq_X12_first_107 Th60 (k := 145) (d := 84) (j := 2) rfl rfl (by omega) (by omega) (fun x65 hx65 lx65 ux65 => ?_)
                refine ex_iw1 oq_X12_first_108 Th60 (k := 146) (d := 85) (j := 2) rfl rfl (by omega) (by omega) ⟨by omega, by omega⟩ (fun h66 Th66 wh66 => ?_)
                have Fh66 : cw_Fr cw_Ds cw_sh kk_X12_first.2.2.2.2.2.1 h0 h66 := cw_Fr_tr Fh60 (cw_Fr_wrr wh66 (k := 146) (d := 85) rfl rfl (by decide +kernel))
                refine ex_incA oq_X12_first_109 (v := x61) (m := 1) gL62_6 (by decide) (by omega) (fun L68 x67 hx67 gL68_6 kL68 => ?_)
                have gL68_3 : cv_get L68 3 = some (cv_i x7) := kL68 3 _ (by decide) (fun q => absurd q (by decide)) gL62_3
                have gL68_5 : cv_get L68 5 = some (cv_i x7) := kL68 5 _ (by decide) (fun _ => rfl) gL62_5
                have gL68_0 : cv_get L68 0 = some (cv_r 111) := kL68 0 _ (by decide) (fun q => absurd q (by decide)) gL62_0
                have gL68_1 : cv_get L68 1 = some (cv_i t) := kL68 1 _ (by decide) (fun q => absurd q (by decide)) gL62_1
                have gL68_2 : cv_get L68 2 = some (cv_i w) := kL68 2 _ (by decide) (fun q => absurd q (by decide)) gL62_2
                have gL68_4 : cv_get L68 4 = some (cv_i mo) := kL68 4 _ (by decide) (fun q => absurd q (by decide)) gL62_4
                refine ex_go oq_X12_first_112 (t := 89) rfl rfl ?_
                refine ex_ilw oq_X12_first_89 gL68_6 ?_
                refine ex_ic oq_X12_first_91 (m := 4) (by decide) (fun x69 hx69 => ?_)
                refine ex_if oq_X12_first_92 (t := 115) rfl rfl (fun (c70 : x69.toInt ≤ x67.toInt) => ?_) (fun (c70 : ¬ (x69.toInt ≤ x67.toInt)) => ?_)
                · exfalso; omega
                · refine ex_al oq_X12_first_95 gL68_0 ?_
                  refine ex_gf oq_X12_first_96 Th66 (k := 111) (d := 12) rfl rfl (fr_bestOrder Th66) ?_
                  refine ex_ilw oq_X12_first_99 gL68_6 ?_
                  refine ex_al oq_X12_first_101 gL68_0 ?_
                  refine ex_gf oq_X12_first_102 Th66 (k := 111) (d := 12) rfl rfl (fr_order Th66) ?_
                  refine ex_ilw oq_X12_first_105 gL68_6 ?_
                  refine ex_ia1 oq_X12_first_107 Th66 (k := 145) (d := 84) (j := 3) rfl rfl (by omega) (by omega) (fun x71 hx71 lx71 ux71 => ?_)
                  refine ex_iw1 oq_X12_first_108 Th66 (k := 146) (d := 85) (j := 3) rfl rfl (by omega) (by omega) ⟨by omega, by omega⟩ (fun h72 Th72 wh72 => ?_)
                  have Fh72 : cw_Fr cw_Ds cw_sh kk_X12_first.2.2.2.2.2.1 h0 h72 := cw_Fr_tr Fh66 (cw_Fr_wrr wh72 (k := 146) (d := 85) rfl rfl (by decide +kernel))
                  refine ex_incA oq_X12_first_109 (v := x67) (m := 1) gL68_6 (by decide) (by omega) (fun L74 x73 hx73 gL74_6 kL74 => ?_)
                  have gL74_3 : cv_get L74 3 = some (cv_i x7) := kL74 3 _ (by decide) (fun q => absurd q (by decide)) gL68_3
                  have gL74_5 : cv_get L74 5 = some (cv_i x7) := kL74 5 _ (by decide) (fun _ => rfl) gL68_5
                  have gL74_0 : cv_get L74 0 = some (cv_r 111) := kL74 0 _ (by decide) (fun q => absurd q (by decide)) gL68_0
                  have gL74_1 : cv_get L74 1 = some (cv_i t) := kL74 1 _ (by decide) (fun q => absurd q (by decide)) gL68_1
                  have gL74_2 : cv_get L74 2 = some (cv_i w) := kL74 2 _ (by decide) (fun q => absurd q (by decide)) gL68_2
                  have gL74_4 : cv_get L74 4 = some (cv_i mo) := kL74 4 _ (by decide) (fun q => absurd q (by decide)) gL68_4
                  refine ex_go oq_X12_first_112 (t := 89) rfl rfl ?_
                  refine ex_ilw oq_X12_first_89 gL74_6 ?_
                  refine ex_ic oq_X12_first_91 (m := 4) (by decide) (fun x75 hx75 => ?_)
                  refine ex_if oq_X12_first_92 (t := 115) rfl rfl (fun (c76 : x75.toInt ≤ x73.toInt) => ?_) (fun (c76 : ¬ (x75.toInt ≤ x73.toInt)) => ?_)
                  · refine ex_al oq_X12_first_115 gL74_0 ?_
                    refine ex_gf oq_X12_first_116 Th72 (k := 111) (d := 12) rfl rfl (fr_order Th72) ?_
                    refine ex_al oq_X12_first_119 gL74_0 ?_
                    obtain ⟨x77, ax77, rx77, lx77, ux77⟩ := fi_gates Th72
                    refine ex_gf oq_X12_first_120 Th72 (k := 111) (d := 12) rfl rfl ax77 ?_
                    obtain ⟨hodh72, horh72⟩ := od_fr hodh6 (h' := h72) (fun i => ((ri_ne wh72 (.inl (by decide))).trans ((ri_ne wh66 (.inl (by decide))).trans ((ri_ne wh60 (.inl (by decide))).trans (ri_ne wh54 (.inl (by decide)))))))
                    have hG := fr_G Th72
                    refine ex_cs oq_X12_first_123 (by decide) (as := [cv_r 145, cv_i x77]) (stk := []) rfl rfl rfl ⟨rfl, rfl⟩ (R := fun o => ∃ (x : Int32) (hb : cv_H), o = (some (cv_i x), hb) ∧ cw_T G hb ∧ cw_Fr cw_Ds cw_sh kk_X12_nextOrder.2.2.2.2.2.1 h72 hb ∧ 0 ≤ x.toInt ∧ x.toInt ≤ 1 ∧ (x.toInt = 1 → od_p G hb ∧ od_r h72 < od_r hb)) (sp_nextOrder Th72 hG1 hG4 x77 (by omega) hodh72 (fun x h a1 a2 a3 a4 a5 => ⟨x, h, rfl, a1, a2, a3, a4, a5⟩)) (fun o ho => ?_)
                    obtain ⟨x79, h78, rfl, Th78, Ch78, lx79, ux79, dx79⟩ := ho
                    show cw_X _ _ _ _ _ [cv_i x79] h78
                    have Fh78 : cw_Fr cw_Ds cw_sh kk_X12_first.2.2.2.2.2.1 h0 h78 := cw_Fr_tr Fh72 (cw_Fr_mono (by decide +kernel) Ch78)
                    refine ex_iswA oq_X12_first_126 (fun L80 gL80_4 kL80 => ?_)
                    have gL80_6 : cv_get L80 6 = some (cv_i x73) := kL80 6 _ (by decide) (fun q => absurd q (by decide)) gL74_6
                    have gL80_3 : cv_get L80 3 = some (cv_i x7) := kL80 3 _ (by decide) (fun _ => rfl) gL74_3
                    have gL80_5 : cv_get L80 5 = some (cv_i x7) := kL80 5 _ (by decide) (fun q => absurd q (by decide)) gL74_5
                    have gL80_0 : cv_get L80 0 = some (cv_r 111) := kL80 0 _ (by decide) (fun q => absurd q (by decide)) gL74_0
                    have gL80_1 : cv_get L80 1 = some (cv_i t) := kL80 1 _ (by decide) (fun q => absurd q (by decide)) gL74_1
                    have gL80_2 : cv_get L80 2 = some (cv_i w) := kL80 2 _ (by decide) (fun q => absurd q (by decide)) gL74_2
                    refine ex_go oq_X12_first_128 (t := 61) rfl rfl ?_
                    have bb := od_b Th78
                    rcases (by omega : x79.toInt = 0 ∨ x79.toInt = 1) with hx0 | hx1
                    · exact ih x7 x79 h78 Th78 Fh78 L80 gL80_0 gL80_1 gL80_2 gL80_3 gL80_4 lx79 ux79 (.inl hx0) (.inl hx0)
                    · exact ih x7 x79 h78 Th78 Fh78 L80 gL80_0 gL80_1 gL80_2 gL80_3 gL80_4 lx79 ux79 (.inr (dx79 hx1).1) (.inr (by have := (dx79 hx1).2; omega))
                  · exfalso; omega
theorem hk_X12_first (hl5 : cw_Holds fk_all mt_all cw_Ds cw_sh G (cw_PP G) kk_X12_lays_5) (hl3 : cw_Holds fk_all mt_all cw_Ds cw_sh G (cw_PP G) kk_X12_lays_3) (hdr : cw_Holds fk_all mt_all cw_Ds cw_sh G (cw_PP G) kk_X12_dropOf) (hwa : cw_Holds fk_all mt_all cw_Ds cw_sh G (cw_PP G) kk_X12_weekOfAll) : cw_Holds fk_all mt_all cw_Ds cw_sh G (cw_PP G) kk_X12_first := by
  refine cw_XH fun X h av hX hT hP hg hfp => ?_
  match av, hg with
  | [v0, v1, v2], ⟨h0, ⟨t, e1, rt⟩, ⟨w, e2, rw2⟩, _⟩ =>
  obtain rfl : v0 = cv_r 111 := by
    rcases h0 with ⟨-, k, rfl, hk⟩ | ⟨j, hj, -⟩
    · rw [ri_uniq (d := 12) (k := 111) (by decide +kernel) k hk]
    · omega
  subst e1 e2
  have Fh : cw_Fr cw_Ds cw_sh kk_X12_first.2.2.2.2.2.1 h h := cw_Fr_refl
  obtain ⟨_, _, rG0, lG0, uG0⟩ := fi_gates hT
  have hG0 := fr_G hT
  refine ex_al oq_X12_first_0 rfl ?_
  refine ex_ic oq_X12_first_1 (m := 0) (by decide) (fun x2001 hx2001 => ?_)
  refine ex_pfi oq_X12_first_2 hT (k := 111) (d := 12) rfl rfl rfl (cw_i32 _).1 (cw_i32 _).2 (fun h2002 Th2002 wh2002 => ?_)
  have Fh2002 : cw_Fr cw_Ds cw_sh kk_X12_first.2.2.2.2.2.1 h h2002 := cw_Fr_tr Fh (cw_Fr_wrf wh2002 (k := 111) (d := 12) rfl rfl (by decide +kernel))
  have eh2002_12 : ri_at h2002 111 12 = ri_at h 111 12 := ri_ne wh2002 (by decide)
  have eh2002_o0 : ri_at h2002 145 0 = ri_at h 145 0 := ri_ne wh2002 (.inl (by decide))
  have eh2002_o1 : ri_at h2002 145 1 = ri_at h 145 1 := ri_ne wh2002 (.inl (by decide))
  have eh2002_o2 : ri_at h2002 145 2 = ri_at h 145 2 := ri_ne wh2002 (.inl (by decide))
  have eh2002_o3 : ri_at h2002 145 3 = ri_at h 145 3 := ri_ne wh2002 (.inl (by decide))
  refine ex_al oq_X12_first_5 rfl ?_
  obtain ⟨x2003, ax2003, rx2003, lx2003, ux2003⟩ := fi_gates Th2002
  refine ex_gf oq_X12_first_6 Th2002 (k := 111) (d := 12) rfl rfl ax2003 ?_
  refine ex_if0 oq_X12_first_9 (t := 34) rfl rfl (fun (c2004 : x2003.toInt = 0) => ?_) (fun (c2004 : ¬ (x2003.toInt = 0)) => ?_)
  · refine ex_ic oq_X12_first_34 (m := (-1)) (by decide) (fun x2005 hx2005 => ?_)
    exact ex_reti oq_X12_first_35 rfl ⟨⟨_, rfl, cw_top_ok _⟩, ⟨Th2002, pp_fr0 (by decide +kernel) hP Fh2002⟩, Fh2002, fun y hy hy0 => ⟨fun t ht => absurd ht List.not_mem_nil, fun t ht => absurd ht List.not_mem_nil⟩⟩
  · refine ex_il oq_X12_first_12 rfl ?_
    refine ex_ic oq_X12_first_13 (m := 1) (by decide) (fun x2006 hx2006 => ?_)
    refine ex_bi oq_X12_first_14 (m := 100) (by decide) (fun x2007 hx2007 => ?_)
    refine ex_cs oq_X12_first_16 (by decide) (as := [cv_i t, cv_i x2006, cv_i x2007]) (stk := []) rfl rfl rfl ⟨rfl, rfl⟩ (R := fun o => ∃ x : Int32, o = (some (cv_i x), h2002) ∧ (x.toInt = 1 ∧ x2006.toInt ≤ t.toInt ∧ t.toInt ≤ x2007.toInt ∨ x.toInt = 0 ∧ ¬ (x2006.toInt ≤ t.toInt ∧ t.toInt ≤ x2007.toInt))) (sp_isIn Th2002 t x2006 x2007  (fun x hx => ⟨x, rfl, hx⟩)) (fun ox2008 hox2008 => ?_)
    obtain ⟨x2008, rfl, hx2008⟩ := hox2008
    show cw_X _ _ _ _ _ [cv_i x2008] h2002
    refine ex_if0 oq_X12_first_19 (t := 34) rfl rfl (fun (c2009 : x2008.toInt = 0) => ?_) (fun (c2009 : ¬ (x2008.toInt = 0)) => ?_)
    · refine ex_ic oq_X12_first_34 (m := (-1)) (by decide) (fun x2010 hx2010 => ?_)
      exact ex_reti oq_X12_first_35 rfl ⟨⟨_, rfl, cw_top_ok _⟩, ⟨Th2002, pp_fr0 (by decide +kernel) hP Fh2002⟩, Fh2002, fun y hy hy0 => ⟨fun t ht => absurd ht List.not_mem_nil, fun t ht => absurd ht List.not_mem_nil⟩⟩
    · refine ex_il oq_X12_first_22 rfl ?_
      refine ex_ic oq_X12_first_23 (m := 0) (by decide) (fun x2011 hx2011 => ?_)
      refine ex_al oq_X12_first_24 rfl ?_
      obtain ⟨x2012, ax2012, rx2012, lx2012, ux2012⟩ := fi_gates Th2002
      refine ex_gf oq_X12_first_25 Th2002 (k := 111) (d := 12) rfl rfl ax2012 ?_
      refine ex_cs oq_X12_first_28 (by decide) (as := [cv_i w, cv_i x2011, cv_i x2012]) (stk := []) rfl rfl rfl ⟨rfl, rfl⟩ (R := fun o => ∃ x : Int32, o = (some (cv_i x), h2002) ∧ (x.toInt = 1 ∧ x2011.toInt ≤ w.toInt ∧ w.toInt ≤ x2012.toInt ∨ x.toInt = 0 ∧ ¬ (x2011.toInt ≤ w.toInt ∧ w.toInt ≤ x2012.toInt))) (sp_isIn Th2002 w x2011 x2012  (fun x hx => ⟨x, rfl, hx⟩)) (fun ox2013 hox2013 => ?_)
      obtain ⟨x2013, rfl, hx2013⟩ := hox2013
      show cw_X _ _ _ _ _ [cv_i x2013] h2002
      refine ex_if0 oq_X12_first_31 (t := 36) rfl rfl (fun (c2014 : ¬ x2013.toInt = 0) => ?_) (fun (c2014 : ¬ (¬ x2013.toInt = 0)) => ?_)
      · refine ex_ic oq_X12_first_36 (m := 0) (by decide) (fun x2015 hx2015 => ?_)
        refine ex_isA oq_X12_first_37 (fun L2016 gL2016_3 kL2016 => ?_)
        have gL2016_0 : cv_get L2016 0 = some (cv_r 111) := kL2016 0 _ (by decide) (fun q => absurd q (by decide)) rfl
        have gL2016_1 : cv_get L2016 1 = some (cv_i t) := kL2016 1 _ (by decide) (fun q => absurd q (by decide)) rfl
        have gL2016_2 : cv_get L2016 2 = some (cv_i w) := kL2016 2 _ (by decide) (fun _ => rfl) rfl
        refine ex_il oq_X12_first_38 gL2016_3 ?_
        refine ex_ic oq_X12_first_39 (m := 4) (by decide) (fun x2017 hx2017 => ?_)
        refine ex_if oq_X12_first_40 (t := 56) rfl rfl (fun (c2018 : x2017.toInt ≤ x2015.toInt) => ?_) (fun (c2018 : ¬ (x2017.toInt ≤ x2015.toInt)) => ?_)
        · exfalso; omega
        · refine ex_al oq_X12_first_43 gL2016_0 ?_
          refine ex_gf oq_X12_first_44 Th2002 (k := 111) (d := 12) rfl rfl (fr_order Th2002) ?_
          refine ex_il oq_X12_first_47 gL2016_3 ?_
          refine ex_il oq_X12_first_48 gL2016_3 ?_
          refine ex_iw1 oq_X12_first_49 Th2002 (k := 145) (d := 84) (j := 0) rfl rfl (by omega) (by omega) ⟨by omega, by omega⟩ (fun h2019 Th2019 wh2019 => ?_)
          have Fh2019 : cw_Fr cw_Ds cw_sh kk_X12_first.2.2.2.2.2.1 h h2019 := cw_Fr_tr Fh2002 (cw_Fr_wrr wh2019 (k := 145) (d := 84) rfl rfl (by decide +kernel))
          have eh2019_12 : ri_at h2019 111 12 = ri_at h2002 111 12 := ri_ne wh2019 (.inl (by decide))
          have eh2019_o0 : ri_at h2019 145 0 = x2015.toInt := ri_self wh2019
          have eh2019_o1 : ri_at h2019 145 1 = ri_at h2002 145 1 := ri_ne wh2019 (.inr (by decide))
          have eh2019_o2 : ri_at h2019 145 2 = ri_at h2002 145 2 := ri_ne wh2019 (.inr (by decide))
          have eh2019_o3 : ri_at h2019 145 3 = ri_at h2002 145 3 := ri_ne wh2019 (.inr (by decide))
          refine ex_incA oq_X12_first_50 (v := x2015) (m := 1) gL2016_3 (by decide) (by omega) (fun L2021 x2020 hx2020 gL2021_3 kL2021 => ?_)
          have gL2021_0 : cv_get L2021 0 = some (cv_r 111) := kL2021 0 _ (by decide) (fun q => absurd q (by decide)) gL2016_0
          have gL2021_1 : cv_get L2021 1 = some (cv_i t) := kL2021 1 _ (by decide) (fun q => absurd q (by decide)) gL2016_1
          have gL2021_2 : cv_get L2021 2 = some (cv_i w) := kL2021 2 _ (by decide) (fun _ => rfl) gL2016_2
          refine ex_go oq_X12_first_53 (t := 38) rfl rfl ?_
          refine ex_il oq_X12_first_38 gL2021_3 ?_
          refine ex_ic oq_X12_first_39 (m := 4) (by decide) (fun x2022 hx2022 => ?_)
          refine ex_if oq_X12_first_40 (t := 56) rfl rfl (fun (c2023 : x2022.toInt ≤ x2020.toInt) => ?_) (fun (c2023 : ¬ (x2022.toInt ≤ x2020.toInt)) => ?_)
          · exfalso; omega
          · refine ex_al oq_X12_first_43 gL2021_0 ?_
            refine ex_gf oq_X12_first_44 Th2019 (k := 111) (d := 12) rfl rfl (fr_order Th2019) ?_
            refine ex_il oq_X12_first_47 gL2021_3 ?_
            refine ex_il oq_X12_first_48 gL2021_3 ?_
            refine ex_iw1 oq_X12_first_49 Th2019 (k := 145) (d := 84) (j := 1) rfl rfl (by omega) (by omega) ⟨by omega, by omega⟩ (fun h2024 Th2024 wh2024 => ?_)
            have Fh2024 : cw_Fr cw_Ds cw_sh kk_X12_first.2.2.2.2.2.1 h h2024 := cw_Fr_tr Fh2019 (cw_Fr_wrr wh2024 (k := 145) (d := 84) rfl rfl (by decide +kernel))
            have eh2024_12 : ri_at h2024 111 12 = ri_at h2019 111 12 := ri_ne wh2024 (.inl (by decide))
            have eh2024_o0 : ri_at h2024 145 0 = ri_at h2019 145 0 := ri_ne wh2024 (.inr (by decide))
            have eh2024_o1 : ri_at h2024 145 1 = x2020.toInt := ri_self wh2024
            have eh2024_o2 : ri_at h2024 145 2 = ri_at h2019 145 2 := ri_ne wh2024 (.inr (by decide))
            have eh2024_o3 : ri_at h2024 145 3 = ri_at h2019 145 3 := ri_ne wh2024 (.inr (by decide))
            refine ex_incA oq_X12_first_50 (v := x2020) (m := 1) gL2021_3 (by decide) (by omega) (fun L2026 x2025 hx2025 gL2026_3 kL2026 => ?_)
            have gL2026_0 : cv_get L2026 0 = some (cv_r 111) := kL2026 0 _ (by decide) (fun q => absurd q (by decide)) gL2021_0
            have gL2026_1 : cv_get L2026 1 = some (cv_i t) := kL2026 1 _ (by decide) (fun q => absurd q (by decide)) gL2021_1
            have gL2026_2 : cv_get L2026 2 = some (cv_i w) := kL2026 2 _ (by decide) (fun _ => rfl) gL2021_2
            refine ex_go oq_X12_first_53 (t := 38) rfl rfl ?_
            refine ex_il oq_X12_first_38 gL2026_3 ?_
            refine ex_ic oq_X12_first_39 (m := 4) (by decide) (fun x2027 hx2027 => ?_)
            refine ex_if oq_X12_first_40 (t := 56) rfl rfl (fun (c2028 : x2027.toInt ≤ x2025.toInt) => ?_) (fun (c2028 : ¬ (x2027.toInt ≤ x2025.toInt)) => ?_)
            · exfalso; omega
            · refine ex_al oq_X12_first_43 gL2026_0 ?_
              refine ex_gf oq_X12_first_44 Th2024 (k := 111) (d := 12) rfl rfl (fr_order Th2024) ?_
              refine ex_il oq_X12_first_47 gL2026_3 ?_
              refine ex_il oq_X12_first_48 gL2026_3 ?_
              refine ex_iw1 oq_X12_first_49 Th2024 (k := 145) (d := 84) (j := 2) rfl rfl (by omega) (by omega) ⟨by omega, by omega⟩ (fun h2029 Th2029 wh2029 => ?_)
              have Fh2029 : cw_Fr cw_Ds cw_sh kk_X12_first.2.2.2.2.2.1 h h2029 := cw_Fr_tr Fh2024 (cw_Fr_wrr wh2029 (k := 145) (d := 84) rfl rfl (by decide +kernel))
              have eh2029_12 : ri_at h2029 111 12 = ri_at h2024 111 12 := ri_ne wh2029 (.inl (by decide))
              have eh2029_o0 : ri_at h2029 145 0 = ri_at h2024 145 0 := ri_ne wh2029 (.inr (by decide))
              have eh2029_o1 : ri_at h2029 145 1 = ri_at h2024 145 1 := ri_ne wh2029 (.inr (by decide))
              have eh2029_o2 : ri_at h2029 145 2 = x2025.toInt := ri_self wh2029
              have eh2029_o3 : ri_at h2029 145 3 = ri_at h2024 145 3 := ri_ne wh2029 (.inr (by decide))
              refine ex_incA oq_X12_first_50 (v := x2025) (m := 1) gL2026_3 (by decide) (by omega) (fun L2031 x2030 hx2030 gL2031_3 kL2031 => ?_)
              have gL2031_0 : cv_get L2031 0 = some (cv_r 111) := kL2031 0 _ (by decide) (fun q => absurd q (by decide)) gL2026_0
              have gL2031_1 : cv_get L2031 1 = some (cv_i t) := kL2031 1 _ (by decide) (fun q => absurd q (by decide)) gL2026_1
              have gL2031_2 : cv_get L2031 2 = some (cv_i w) := kL2031 2 _ (by decide) (fun _ => rfl) gL2026_2
              refine ex_go oq_X12_first_53 (t := 38) rfl rfl ?_
              refine ex_il oq_X12_first_38 gL2031_3 ?_
              refine ex_ic oq_X12_first_39 (m := 4) (by decide) (fun x2032 hx2032 => ?_)
              refine ex_if oq_X12_first_40 (t := 56) rfl rfl (fun (c2033 : x2032.toInt ≤ x2030.toInt) => ?_) (fun (c2033 : ¬ (x2032.toInt ≤ x2030.toInt)) => ?_)
              · exfalso; omega
              · refine ex_al oq_X12_first_43 gL2031_0 ?_
                refine ex_gf oq_X12_first_44 Th2029 (k := 111) (d := 12) rfl rfl (fr_order Th2029) ?_
                refine ex_il oq_X12_first_47 gL2031_3 ?_
                refine ex_il oq_X12_first_48 gL2031_3 ?_
                refine ex_iw1 oq_X12_first_49 Th2029 (k := 145) (d := 84) (j := 3) rfl rfl (by omega) (by omega) ⟨by omega, by omega⟩ (fun h2034 Th2034 wh2034 => ?_)
                have Fh2034 : cw_Fr cw_Ds cw_sh kk_X12_first.2.2.2.2.2.1 h h2034 := cw_Fr_tr Fh2029 (cw_Fr_wrr wh2034 (k := 145) (d := 84) rfl rfl (by decide +kernel))
                have eh2034_12 : ri_at h2034 111 12 = ri_at h2029 111 12 := ri_ne wh2034 (.inl (by decide))
                have eh2034_o0 : ri_at h2034 145 0 = ri_at h2029 145 0 := ri_ne wh2034 (.inr (by decide))
                have eh2034_o1 : ri_at h2034 145 1 = ri_at h2029 145 1 := ri_ne wh2034 (.inr (by decide))
                have eh2034_o2 : ri_at h2034 145 2 = ri_at h2029 145 2 := ri_ne wh2034 (.inr (by decide))
                have eh2034_o3 : ri_at h2034 145 3 = x2030.toInt := ri_self wh2034
                refine ex_incA oq_X12_first_50 (v := x2030) (m := 1) gL2031_3 (by decide) (by omega) (fun L2036 x2035 hx2035 gL2036_3 kL2036 => ?_)
                have gL2036_0 : cv_get L2036 0 = some (cv_r 111) := kL2036 0 _ (by decide) (fun q => absurd q (by decide)) gL2031_0
                have gL2036_1 : cv_get L2036 1 = some (cv_i t) := kL2036 1 _ (by decide) (fun q => absurd q (by decide)) gL2031_1
                have gL2036_2 : cv_get L2036 2 = some (cv_i w) := kL2036 2 _ (by decide) (fun _ => rfl) gL2031_2
                refine ex_go oq_X12_first_53 (t := 38) rfl rfl ?_
                refine ex_il oq_X12_first_38 gL2036_3 ?_
                refine ex_ic oq_X12_first_39 (m := 4) (by decide) (fun x2037 hx2037 => ?_)
                refine ex_if oq_X12_first_40 (t := 56) rfl rfl (fun (c2038 : x2037.toInt ≤ x2035.toInt) => ?_) (fun (c2038 : ¬ (x2037.toInt ≤ x2035.toInt)) => ?_)
                · refine ex_ic oq_X12_first_56 (m := (-1)) (by decide) (fun x2039 hx2039 => ?_)
                  refine ex_isA oq_X12_first_57 (fun L2040 gL2040_3 kL2040 => ?_)
                  have gL2040_0 : cv_get L2040 0 = some (cv_r 111) := kL2040 0 _ (by decide) (fun q => absurd q (by decide)) gL2036_0
                  have gL2040_1 : cv_get L2040 1 = some (cv_i t) := kL2040 1 _ (by decide) (fun q => absurd q (by decide)) gL2036_1
                  have gL2040_2 : cv_get L2040 2 = some (cv_i w) := kL2040 2 _ (by decide) (fun _ => rfl) gL2036_2
                  refine ex_ic oq_X12_first_58 (m := 1) (by decide) (fun x2041 hx2041 => ?_)
                  refine ex_iswA oq_X12_first_59 (fun L2042 gL2042_4 kL2042 => ?_)
                  have gL2042_3 : cv_get L2042 3 = some (cv_i x2039) := kL2042 3 _ (by decide) (fun _ => rfl) gL2040_3
                  have gL2042_0 : cv_get L2042 0 = some (cv_r 111) := kL2042 0 _ (by decide) (fun q => absurd q (by decide)) gL2040_0
                  have gL2042_1 : cv_get L2042 1 = some (cv_i t) := kL2042 1 _ (by decide) (fun q => absurd q (by decide)) gL2040_1
                  have gL2042_2 : cv_get L2042 2 = some (cv_i w) := kL2042 2 _ (by decide) (fun q => absurd q (by decide)) gL2040_2
                  have hodi : od_p G h2034 := by
                    refine ⟨?_, ?_⟩
                    · intro i hi hin
                      match i, hi, hin with
                      | 0, _, hin => omega
                      | 1, _, hin => omega
                      | 2, _, hin => omega
                      | 3, _, hin => omega
                    · intro i j hi hj hin hjn hij
                      match i, hi, j, hj, hij with
                      | 0, _, 0, _, hij => omega
                      | 0, _, 1, _, hij => omega
                      | 0, _, 2, _, hij => omega
                      | 0, _, 3, _, hij => omega
                      | 1, _, 0, _, hij => omega
                      | 1, _, 1, _, hij => omega
                      | 1, _, 2, _, hij => omega
                      | 1, _, 3, _, hij => omega
                      | 2, _, 0, _, hij => omega
                      | 2, _, 1, _, hij => omega
                      | 2, _, 2, _, hij => omega
                      | 2, _, 3, _, hij => omega
                      | 3, _, 0, _, hij => omega
                      | 3, _, 1, _, hij => omega
                      | 3, _, 2, _, hij => omega
                      | 3, _, 3, _, hij => omega
                  exact fi_61 hX hl5 hl3 hdr hwa hP (by omega) (by omega) t w (by omega) (by omega) (by omega) (by omega) (fun x h a1 a2 => ⟨⟨x, rfl, cw_top_ok _⟩, ⟨a1, pp_fr0 (by decide +kernel) hP a2⟩, a2, fun y hy hy0 => ⟨fun t ht => absurd ht List.not_mem_nil, fun t ht => absurd ht List.not_mem_nil⟩⟩) _ x2039 x2041 h2034 Th2034 Fh2034 L2042 gL2042_0 gL2042_1 gL2042_2 gL2042_3 gL2042_4 (by omega) (by omega) (.inr hodi) (.inr (Nat.le_refl _))
                · exfalso; omega
      · refine ex_ic oq_X12_first_34 (m := (-1)) (by decide) (fun x2043 hx2043 => ?_)
        exact ex_reti oq_X12_first_35 rfl ⟨⟨_, rfl, cw_top_ok _⟩, ⟨Th2002, pp_fr0 (by decide +kernel) hP Fh2002⟩, Fh2002, fun y hy hy0 => ⟨fun t ht => absurd ht List.not_mem_nil, fun t ht => absurd ht List.not_mem_nil⟩⟩
end SPK
