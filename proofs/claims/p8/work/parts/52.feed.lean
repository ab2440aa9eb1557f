/-! ===== methods walked by hand: feed of the reference ===== -/
section SPZB
variable {G : Int} {X : cv_X} {Q : cv_O → Prop}
theorem oq_X12_feed_0 : cw_ho 155 0 (.aload_n 0) 1 0 0 0 := rfl
theorem oq_X12_feed_1 : cw_ho 155 1 (.iconst 0) 1 0 0 0 := rfl
theorem oq_X12_feed_2 : cw_ho 155 2 (.putfield 136) 3 12 2 0 := rfl
theorem oq_X12_feed_5 : cw_ho 155 5 (.aload_n 0) 1 0 0 0 := rfl
theorem oq_X12_feed_6 : cw_ho 155 6 (.getfield 139) 3 12 1 0 := rfl
theorem oq_X12_feed_9 : cw_ho 155 9 (.bipush 20) 2 0 0 0 := rfl
theorem oq_X12_feed_11 : cw_ho 155 11 (.iadd) 1 0 0 0 := rfl
theorem oq_X12_feed_12 : cw_ho 155 12 (.sipush 900) 3 0 0 0 := rfl
theorem oq_X12_feed_15 : cw_ho 155 15 (.if_icmp .le 5) 3 0 0 0 := rfl
theorem oq_X12_feed_18 : cw_ho 155 18 (.iconst (-1)) 1 0 0 0 := rfl
theorem oq_X12_feed_19 : cw_ho 155 19 (.ireturn) 1 0 0 0 := rfl
theorem oq_X12_feed_20 : cw_ho 155 20 (.iconst 0) 1 0 0 0 := rfl
theorem oq_X12_feed_21 : cw_ho 155 21 (.istore 6) 2 0 0 0 := rfl
theorem oq_X12_feed_23 : cw_ho 155 23 (.iload 6) 2 0 0 0 := rfl
theorem oq_X12_feed_25 : cw_ho 155 25 (.bipush 20) 2 0 0 0 := rfl
theorem oq_X12_feed_27 : cw_ho 155 27 (.if_icmp .ge 86) 3 0 0 0 := rfl
theorem oq_X12_feed_30 : cw_ho 155 30 (.iload 6) 2 0 0 0 := rfl
theorem oq_X12_feed_32 : cw_ho 155 32 (.iconst 4) 1 0 0 0 := rfl
theorem oq_X12_feed_33 : cw_ho 155 33 (.if_icmp .ge 7) 3 0 0 0 := rfl
theorem oq_X12_feed_36 : cw_ho 155 36 (.iload_n 1) 1 0 0 0 := rfl
theorem oq_X12_feed_37 : cw_ho 155 37 (.goto 39) 3 0 0 0 := rfl
theorem oq_X12_feed_40 : cw_ho 155 40 (.iload 6) 2 0 0 0 := rfl
theorem oq_X12_feed_42 : cw_ho 155 42 (.bipush 8) 2 0 0 0 := rfl
theorem oq_X12_feed_44 : cw_ho 155 44 (.if_icmp .ge 7) 3 0 0 0 := rfl
theorem oq_X12_feed_47 : cw_ho 155 47 (.iload_n 2) 1 0 0 0 := rfl
theorem oq_X12_feed_48 : cw_ho 155 48 (.goto 28) 3 0 0 0 := rfl
theorem oq_X12_feed_51 : cw_ho 155 51 (.iload 6) 2 0 0 0 := rfl
theorem oq_X12_feed_53 : cw_ho 155 53 (.bipush 12) 2 0 0 0 := rfl
theorem oq_X12_feed_55 : cw_ho 155 55 (.if_icmp .ge 7) 3 0 0 0 := rfl
theorem oq_X12_feed_58 : cw_ho 155 58 (.iload_n 3) 1 0 0 0 := rfl
theorem oq_X12_feed_59 : cw_ho 155 59 (.goto 17) 3 0 0 0 := rfl
theorem oq_X12_feed_62 : cw_ho 155 62 (.iload 6) 2 0 0 0 := rfl
theorem oq_X12_feed_64 : cw_ho 155 64 (.bipush 16) 2 0 0 0 := rfl
theorem oq_X12_feed_66 : cw_ho 155 66 (.if_icmp .ge 8) 3 0 0 0 := rfl
theorem oq_X12_feed_69 : cw_ho 155 69 (.iload 4) 2 0 0 0 := rfl
theorem oq_X12_feed_71 : cw_ho 155 71 (.goto 5) 3 0 0 0 := rfl
theorem oq_X12_feed_74 : cw_ho 155 74 (.iload 5) 2 0 0 0 := rfl
theorem oq_X12_feed_76 : cw_ho 155 76 (.istore 7) 2 0 0 0 := rfl
theorem oq_X12_feed_78 : cw_ho 155 78 (.aload_n 0) 1 0 0 0 := rfl
theorem oq_X12_feed_79 : cw_ho 155 79 (.getfield 7) 3 12 0 4 := rfl
theorem oq_X12_feed_82 : cw_ho 155 82 (.aload_n 0) 1 0 0 0 := rfl
theorem oq_X12_feed_83 : cw_ho 155 83 (.getfield 139) 3 12 1 0 := rfl
theorem oq_X12_feed_86 : cw_ho 155 86 (.iload 6) 2 0 0 0 := rfl
theorem oq_X12_feed_88 : cw_ho 155 88 (.iadd) 1 0 0 0 := rfl
theorem oq_X12_feed_89 : cw_ho 155 89 (.iload 7) 2 0 0 0 := rfl
theorem oq_X12_feed_91 : cw_ho 155 91 (.bipush 24) 2 0 0 0 := rfl
theorem oq_X12_feed_93 : cw_ho 155 93 (.bipush 8) 2 0 0 0 := rfl
theorem oq_X12_feed_95 : cw_ho 155 95 (.iload 6) 2 0 0 0 := rfl
theorem oq_X12_feed_97 : cw_ho 155 97 (.iconst 4) 1 0 0 0 := rfl
theorem oq_X12_feed_98 : cw_ho 155 98 (.irem) 1 0 0 0 := rfl
theorem oq_X12_feed_99 : cw_ho 155 99 (.imul) 1 0 0 0 := rfl
theorem oq_X12_feed_100 : cw_ho 155 100 (.isub) 1 0 0 0 := rfl
theorem oq_X12_feed_101 : cw_ho 155 101 (.ishr) 1 0 0 0 := rfl
theorem oq_X12_feed_102 : cw_ho 155 102 (.sipush 255) 3 0 0 0 := rfl
theorem oq_X12_feed_105 : cw_ho 155 105 (.iand) 1 0 0 0 := rfl
theorem oq_X12_feed_106 : cw_ho 155 106 (.iastore) 1 0 0 0 := rfl
theorem oq_X12_feed_107 : cw_ho 155 107 (.iinc 6 1) 3 0 0 0 := rfl
theorem oq_X12_feed_110 : cw_ho 155 110 (.goto (-87)) 3 0 0 0 := rfl
theorem oq_X12_feed_113 : cw_ho 155 113 (.aload_n 0) 1 0 0 0 := rfl
theorem oq_X12_feed_114 : cw_ho 155 114 (.dup) 1 0 0 0 := rfl
theorem oq_X12_feed_115 : cw_ho 155 115 (.getfield 139) 3 12 1 0 := rfl
theorem oq_X12_feed_118 : cw_ho 155 118 (.bipush 20) 2 0 0 0 := rfl
theorem oq_X12_feed_120 : cw_ho 155 120 (.iadd) 1 0 0 0 := rfl
theorem oq_X12_feed_121 : cw_ho 155 121 (.putfield 139) 3 12 1 0 := rfl
theorem oq_X12_feed_124 : cw_ho 155 124 (.aload_n 0) 1 0 0 0 := rfl
theorem oq_X12_feed_125 : cw_ho 155 125 (.getfield 139) 3 12 1 0 := rfl
theorem oq_X12_feed_128 : cw_ho 155 128 (.ireturn) 1 0 0 0 := rfl
theorem fd_23 {h0 : cv_H} (a1 a2 a3 a4 a5 : Int32) (hQ : ∀ (x : Int32) h', cw_T G h' → cw_Fr cw_Ds cw_sh kk_X12_feed.2.2.2.2.2.1 h0 h' → (880 < ri_at h0 111 1 ∧ x.toInt = -1 ∧ ri_at h' 111 1 = ri_at h0 111 1 ∨ ri_at h0 111 1 ≤ 880 ∧ x.toInt = ri_at h0 111 1 + 20 ∧ ri_at h' 111 1 = ri_at h0 111 1 + 20) → Q (some (cv_i x), h')) (h80 : ri_at h0 111 1 ≤ 880) : ∀ (N : Nat) (k : Int32) (h : cv_H), cw_T G h → cw_Fr cw_Ds cw_sh kk_X12_feed.2.2.2.2.2.1 h0 h → ri_at h 111 1 = ri_at h0 111 1 → ∀ L : cv_L, cv_get L 0 = some (cv_r 111) → cv_get L 1 = some (cv_i a1) → cv_get L 2 = some (cv_i a2) → cv_get L 3 = some (cv_i a3) → cv_get L 4 = some (cv_i a4) → cv_get L 5 = some (cv_i a5) → cv_get L 6 = some (cv_i k) → 0 ≤ k.toInt ∧ k.toInt ≤ 20 → (20 - k.toInt).toNat ≤ N → cw_X X 155 Q 23 L [] h := by
  intro N
  induction N with
  | zero =>
    intro k h Th Fh ht L q0 q1 q2 q3 q4 q5 q6 k0 hN
    refine ex_ilw oq_X12_feed_23 q6 ?_
    refine ex_bi oq_X12_feed_25 (m := 20) (by decide) (fun x1 hx1 => ?_)
    refine ex_if oq_X12_feed_27 (t := 113) rfl rfl (fun (c2 : x1.toInt ≤ k.toInt) => ?_) (fun (c2 : ¬ (x1.toInt ≤ k.toInt)) => ?_)
    · refine ex_al oq_X12_feed_113 q0 ?_
      refine ex_dup oq_X12_feed_114 rfl ?_
      obtain ⟨x3, ax3, rx3, lx3, ux3⟩ := fi_tapeSize Th
      refine ex_gf oq_X12_feed_115 Th (k := 111) (d := 12) rfl rfl ax3 ?_
      refine ex_bi oq_X12_feed_118 (m := 20) (by decide) (fun x4 hx4 => ?_)
      refine ex_add oq_X12_feed_120 (by omega) (fun x5 hx5 => ?_)
      refine ex_pfi oq_X12_feed_121 Th (k := 111) (d := 12) rfl rfl rfl (by omega) (by omega) (fun h6 Th6 wh6 => ?_)
      have Fh6 : cw_Fr cw_Ds cw_sh kk_X12_feed.2.2.2.2.2.1 h0 h6 := cw_Fr_tr Fh (cw_Fr_wrf wh6 (k := 111) (d := 12) rfl rfl (by decide +kernel))
      have eh6_1 : ri_at h6 111 1 = x5.toInt := ri_self wh6
      refine ex_al oq_X12_feed_124 q0 ?_
      obtain ⟨x7, ax7, rx7, lx7, ux7⟩ := fi_tapeSize Th6
      refine ex_gf oq_X12_feed_125 Th6 (k := 111) (d := 12) rfl rfl ax7 ?_
      exact ex_reti oq_X12_feed_128 rfl (hQ x7 h6 Th6 Fh6 (by omega))
    · refine ex_ilw oq_X12_feed_30 q6 ?_
      refine ex_ic oq_X12_feed_32 (m := 4) (by decide) (fun x8 hx8 => ?_)
      refine ex_if oq_X12_feed_33 (t := 40) rfl rfl (fun (c9 : x8.toInt ≤ k.toInt) => ?_) (fun (c9 : ¬ (x8.toInt ≤ k.toInt)) => ?_)
      · refine ex_ilw oq_X12_feed_40 q6 ?_
        refine ex_bi oq_X12_feed_42 (m := 8) (by decide) (fun x10 hx10 => ?_)
        refine ex_if oq_X12_feed_44 (t := 51) rfl rfl (fun (c11 : x10.toInt ≤ k.toInt) => ?_) (fun (c11 : ¬ (x10.toInt ≤ k.toInt)) => ?_)
        · refine ex_ilw oq_X12_feed_51 q6 ?_
          refine ex_bi oq_X12_feed_53 (m := 12) (by decide) (fun x12 hx12 => ?_)
          refine ex_if oq_X12_feed_55 (t := 62) rfl rfl (fun (c13 : x12.toInt ≤ k.toInt) => ?_) (fun (c13 : ¬ (x12.toInt ≤ k.toInt)) => ?_)
          · refine ex_ilw oq_X12_feed_62 q6 ?_
            refine ex_bi oq_X12_feed_64 (m := 16) (by decide) (fun x14 hx14 => ?_)
            refine ex_if oq_X12_feed_66 (t := 74) rfl rfl (fun (c15 : x14.toInt ≤ k.toInt) => ?_) (fun (c15 : ¬ (x14.toInt ≤ k.toInt)) => ?_)
            · refine ex_ilw oq_X12_feed_74 q5 ?_
              refine ex_iswA oq_X12_feed_76 (fun L16 gL16_7 kL16 => ?_)
              have gL16_0 : cv_get L16 0 = some (cv_r 111) := kL16 0 _ (by decide) (fun q => absurd q (by decide)) q0
              have gL16_1 : cv_get L16 1 = some (cv_i a1) := kL16 1 _ (by decide) (fun q => absurd q (by decide)) q1
              have gL16_2 : cv_get L16 2 = some (cv_i a2) := kL16 2 _ (by decide) (fun q => absurd q (by decide)) q2
              have gL16_3 : cv_get L16 3 = some (cv_i a3) := kL16 3 _ (by decide) (fun q => absurd q (by decide)) q3
              have gL16_4 : cv_get L16 4 = some (cv_i a4) := kL16 4 _ (by decide) (fun q => absurd q (by decide)) q4
              have gL16_5 : cv_get L16 5 = some (cv_i a5) := kL16 5 _ (by decide) (fun q => absurd q (by decide)) q5
              have gL16_6 : cv_get L16 6 = some (cv_i k) := kL16 6 _ (by decide) (fun _ => rfl) q6
              refine ex_al oq_X12_feed_78 gL16_0 ?_
              refine ex_gf oq_X12_feed_79 Th (k := 111) (d := 12) rfl rfl (fr_tape Th) ?_
              refine ex_al oq_X12_feed_82 gL16_0 ?_
              obtain ⟨x17, ax17, rx17, lx17, ux17⟩ := fi_tapeSize Th
              refine ex_gf oq_X12_feed_83 Th (k := 111) (d := 12) rfl rfl ax17 ?_
              refine ex_ilw oq_X12_feed_86 gL16_6 ?_
              refine ex_add oq_X12_feed_88 (by omega) (fun x18 hx18 => ?_)
              refine ex_ilw oq_X12_feed_89 gL16_7 ?_
              refine ex_bi oq_X12_feed_91 (m := 24) (by decide) (fun x19 hx19 => ?_)
              refine ex_bi oq_X12_feed_93 (m := 8) (by decide) (fun x20 hx20 => ?_)
              refine ex_ilw oq_X12_feed_95 gL16_6 ?_
              refine ex_ic oq_X12_feed_97 (m := 4) (by decide) (fun x21 hx21 => ?_)
              refine ex_rem oq_X12_feed_98 (by omega) (fun x22 hx22 => ?_)
              refine ex_any (f := fun x y => some x) oq_X12_feed_99 rfl (fun x23 => ?_)
              refine ex_any (f := fun x y => some x) oq_X12_feed_100 rfl (fun x24 => ?_)
              refine ex_any (f := fun x y => some x) oq_X12_feed_101 rfl (fun x25 => ?_)
              refine ex_si oq_X12_feed_102 (m := 255) (by decide) (fun x26 hx26 => ?_)
              refine ex_any (f := fun x y => some x) oq_X12_feed_105 rfl (fun x27 => ?_)
              refine ex_iw1 oq_X12_feed_106 Th (k := 112) (d := 51) (j := (ri_at h 111 1).toNat + k.toInt.toNat) rfl rfl (by omega) (by omega) ⟨(cw_i32 _).1, (cw_i32 _).2⟩ (fun h28 Th28 wh28 => ?_)
              have Fh28 : cw_Fr cw_Ds cw_sh kk_X12_feed.2.2.2.2.2.1 h0 h28 := cw_Fr_tr Fh (cw_Fr_wrr wh28 (k := 112) (d := 51) rfl rfl (by decide +kernel))
              have eh28_1 : ri_at h28 111 1 = ri_at h 111 1 := ri_ne wh28 (.inl (by decide))
              refine ex_incA oq_X12_feed_107 (v := k) (m := 1) gL16_6 (by decide) (by omega) (fun L30 x29 hx29 gL30_6 kL30 => ?_)
              have gL30_7 : cv_get L30 7 = some (cv_i a5) := kL30 7 _ (by decide) (fun q => absurd q (by decide)) gL16_7
              have gL30_0 : cv_get L30 0 = some (cv_r 111) := kL30 0 _ (by decide) (fun q => absurd q (by decide)) gL16_0
              have gL30_1 : cv_get L30 1 = some (cv_i a1) := kL30 1 _ (by decide) (fun q => absurd q (by decide)) gL16_1
              have gL30_2 : cv_get L30 2 = some (cv_i a2) := kL30 2 _ (by decide) (fun q => absurd q (by decide)) gL16_2
              have gL30_3 : cv_get L30 3 = some (cv_i a3) := kL30 3 _ (by decide) (fun q => absurd q (by decide)) gL16_3
              have gL30_4 : cv_get L30 4 = some (cv_i a4) := kL30 4 _ (by decide) (fun q => absurd q (by decide)) gL16_4
              have gL30_5 : cv_get L30 5 = some (cv_i a5) := kL30 5 _ (by decide) (fun _ => rfl) gL16_5
              refine ex_go oq_X12_feed_110 (t := 23) rfl rfl ?_
              exfalso; omega -- x29 h28 Th28 Fh28 (by omega) L30 gL30_0 gL30_1 gL30_2 gL30_3 gL30_4 gL30_5 gL30_6 (by omega) (by omega)
            · refine ex_ilw oq_X12_feed_69 q4 ?_
              refine ex_go oq_X12_feed_71 (t := 76) rfl rfl ?_
              refine ex_iswA oq_X12_feed_76 (fun L31 gL31_7 kL31 => ?_)
              have gL31_0 : cv_get L31 0 = some (cv_r 111) := kL31 0 _ (by decide) (fun q => absurd q (by decide)) q0
              have gL31_1 : cv_get L31 1 = some (cv_i a1) := kL31 1 _ (by decide) (fun q => absurd q (by decide)) q1
              have gL31_2 : cv_get L31 2 = some (cv_i a2) := kL31 2 _ (by decide) (fun q => absurd q (by decide)) q2
              have gL31_3 : cv_get L31 3 = some (cv_i a3) := kL31 3 _ (by decide) (fun q => absurd q (by decide)) q3
              have gL31_4 : cv_get L31 4 = some (cv_i a4) := kL31 4 _ (by decide) (fun q => absurd q (by decide)) q4
              have gL31_5 : cv_get L31 5 = some (cv_i a5) := kL31 5 _ (by decide) (fun q => absurd q (by decide)) q5
              have gL31_6 : cv_get L31 6 = some (cv_i k) := kL31 6 _ (by decide) (fun _ => rfl) q6
              refine ex_al oq_X12_feed_78 gL31_0 ?_
              refine ex_gf oq_X12_feed_79 Th (k := 111) (d := 12) rfl rfl (fr_tape Th) ?_
              refine ex_al oq_X12_feed_82 gL31_0 ?_
              obtain ⟨x32, ax32, rx32, lx32, ux32⟩ := fi_tapeSize Th
              refine ex_gf oq_X12_feed_83 Th (k := 111) (d := 12) rfl rfl ax32 ?_
              refine ex_ilw oq_X12_feed_86 gL31_6 ?_
              refine ex_add oq_X12_feed_88 (by omega) (fun x33 hx33 => ?_)
              refine ex_ilw oq_X12_feed_89 gL31_7 ?_
              refine ex_bi oq_X12_feed_91 (m := 24) (by decide) (fun x34 hx34 => ?_)
              refine ex_bi oq_X12_feed_93 (m := 8) (by decide) (fun x35 hx35 => ?_)
              refine ex_ilw oq_X12_feed_95 gL31_6 ?_
              refine ex_ic oq_X12_feed_97 (m := 4) (by decide) (fun x36 hx36 => ?_)
              refine ex_rem oq_X12_feed_98 (by omega) (fun x37 hx37 => ?_)
              refine ex_any (f := fun x y => some x) oq_X12_feed_99 rfl (fun x38 => ?_)
              refine ex_any (f := fun x y => some x) oq_X12_feed_100 rfl (fun x39 => ?_)
              refine ex_any (f := fun x y => some x) oq_X12_feed_101 rfl (fun x40 => ?_)
              refine ex_si oq_X12_feed_102 (m := 255) (by decide) (fun x41 hx41 => ?_)
              refine ex_any (f := fun x y => some x) oq_X12_feed_105 rfl (fun x42 => ?_)
              refine ex_iw1 oq_X12_feed_106 Th (k := 112) (d := 51) (j := (ri_at h 111 1).toNat + k.toInt.toNat) rfl rfl (by omega) (by omega) ⟨(cw_i32 _).1, (cw_i32 _).2⟩ (fun h43 Th43 wh43 => ?_)
              have Fh43 : cw_Fr cw_Ds cw_sh kk_X12_feed.2.2.2.2.2.1 h0 h43 := cw_Fr_tr Fh (cw_Fr_wrr wh43 (k := 112) (d := 51) rfl rfl (by decide +kernel))
              have eh43_1 : ri_at h43 111 1 = ri_at h 111 1 := ri_ne wh43 (.inl (by decide))
              refine ex_incA oq_X12_feed_107 (v := k) (m := 1) gL31_6 (by decide) (by omega) (fun L45 x44 hx44 gL45_6 kL45 => ?_)
              have gL45_7 : cv_get L45 7 = some (cv_i a4) := kL45 7 _ (by decide) (fun q => absurd q (by decide)) gL31_7
              have gL45_0 : cv_get L45 0 = some (cv_r 111) := kL45 0 _ (by decide) (fun q => absurd q (by decide)) gL31_0
              have gL45_1 : cv_get L45 1 = some (cv_i a1) := kL45 1 _ (by decide) (fun q => absurd q (by decide)) gL31_1
              have gL45_2 : cv_get L45 2 = some (cv_i a2) := kL45 2 _ (by decide) (fun q => absurd q (by decide)) gL31_2
              have gL45_3 : cv_get L45 3 = some (cv_i a3) := kL45 3 _ (by decide) (fun q => absurd q (by decide)) gL31_3
              have gL45_4 : cv_get L45 4 = some (cv_i a4) := kL45 4 _ (by decide) (fun q => absurd q (by decide)) gL31_4
              have gL45_5 : cv_get L45 5 = some (cv_i a5) := kL45 5 _ (by decide) (fun _ => rfl) gL31_5
              refine ex_go oq_X12_feed_110 (t := 23) rfl rfl ?_
              exfalso; omega -- x44 h43 Th43 Fh43 (by omega) L45 gL45_0 gL45_1 gL45_2 gL45_3 gL45_4 gL45_5 gL45_6 (by omega) (by omega)
          · refine ex_il oq_X12_feed_58 q3 ?_
            refine ex_go oq_X12_feed_59 (t := 76) rfl rfl ?_
            refine ex_iswA oq_X12_feed_76 (fun L46 gL46_7 kL46 => ?_)
            have gL46_0 : cv_get L46 0 = some (cv_r 111) := kL46 0 _ (by decide) (fun q => absurd q (by decide)) q0
            have gL46_1 : cv_get L46 1 = some (cv_i a1) := kL46 1 _ (by decide) (fun q => absurd q (by decide)) q1
            have gL46_2 : cv_get L46 2 = some (cv_i a2) := kL46 2 _ (by decide) (fun q => absurd q (by decide)) q2
            have gL46_3 : cv_get L46 3 = some (cv_i a3) := kL46 3 _ (by decide) (fun q => absurd q (by decide)) q3
            have gL46_4 : cv_get L46 4 = some (cv_i a4) := kL46 4 _ (by decide) (fun q => absurd q (by decide)) q4
            have gL46_5 : cv_get L46 5 = some (cv_i a5) := kL46 5 _ (by decide) (fun q => absurd q (by decide)) q5
            have gL46_6 : cv_get L46 6 = some (cv_i k) := kL46 6 _ (by decide) (fun _ => rfl) q6
            refine ex_al oq_X12_feed_78 gL46_0 ?_
            refine ex_gf oq_X12_feed_79 Th (k := 111) (d := 12) rfl rfl (fr_tape Th) ?_
            refine ex_al oq_X12_feed_82 gL46_0 ?_
            obtain ⟨x47, ax47, rx47, lx47, ux47⟩ := fi_tapeSize Th
            refine ex_gf oq_X12_feed_83 Th (k := 111) (d := 12) rfl rfl ax47 ?_
            refine ex_ilw oq_X12_feed_86 gL46_6 ?_
            refine ex_add oq_X12_feed_88 (by omega) (fun x48 hx48 => ?_)
            refine ex_ilw oq_X12_feed_89 gL46_7 ?_
            refine ex_bi oq_X12_feed_91 (m := 24) (by decide) (fun x49 hx49 => ?_)
            refine ex_bi oq_X12_feed_93 (m := 8) (by decide) (fun x50 hx50 => ?_)
            refine ex_ilw oq_X12_feed_95 gL46_6 ?_
            refine ex_ic oq_X12_feed_97 (m := 4) (by decide) (fun x51 hx51 => ?_)
            refine ex_rem oq_X12_feed_98 (by omega) (fun x52 hx52 => ?_)
            refine ex_any (f := fun x y => some x) oq_X12_feed_99 rfl (fun x53 => ?_)
            refine ex_any (f := fun x y => some x) oq_X12_feed_100 rfl (fun x54 => ?_)
            refine ex_any (f := fun x y => some x) oq_X12_feed_101 rfl (fun x55 => ?_)
            refine ex_si oq_X12_feed_102 (m := 255) (by decide) (fun x56 hx56 => ?_)
            refine ex_any (f := fun x y => some x) oq_X12_feed_105 rfl (fun x57 => ?_)
            refine ex_iw1 oq_X12_feed_106 Th (k := 112) (d := 51) (j := (ri_at h 111 1).toNat + k.toInt.toNat) rfl rfl (by omega) (by omega) ⟨(cw_i32 _).1, (cw_i32 _).2⟩ (fun h58 Th58 wh58 => ?_)
            have Fh58 : cw_Fr cw_Ds cw_sh kk_X12_feed.2.2.2.2.2.1 h0 h58 := cw_Fr_tr Fh (cw_Fr_wrr wh58 (k := 112) (d := 51) rfl rfl (by decide +kernel))
            have eh58_1 : ri_at h58 111 1 = ri_at h 111 1 := ri_ne wh58 (.inl (by decide))
            refine ex_incA oq_X12_feed_107 (v := k) (m := 1) gL46_6 (by decide) (by omega) (fun L60 x59 hx59 gL60_6 kL60 => ?_)
            have gL60_7 : cv_get L60 7 = some (cv_i a3) := kL60 7 _ (by decide) (fun q => absurd q (by decide)) gL46_7
            have gL60_0 : cv_get L60 0 = some (cv_r 111) := kL60 0 _ (by decide) (fun q => absurd q (by decide)) gL46_0
            have gL60_1 : cv_get L60 1 = some (cv_i a1) := kL60 1 _ (by decide) (fun q => absurd q (by decide)) gL46_1
            have gL60_2 : cv_get L60 2 = some (cv_i a2) := kL60 2 _ (by decide) (fun q => absurd q (by decide)) gL46_2
            have gL60_3 : cv_get L60 3 = some (cv_i a3) := kL60 3 _ (by decide) (fun q => absurd q (by decide)) gL46_3
            have gL60_4 : cv_get L60 4 = some (cv_i a4) := kL60 4 _ (by decide) (fun q => absurd q (by decide)) gL46_4
            have gL60_5 : cv_get L60 5 = some (cv_i a5) := kL60 5 _ (by decide) (fun _ => rfl) gL46_5
            refine ex_go oq_X12_feed_110 (t := 23) rfl rfl ?_
            exfalso; omega -- x59 h58 Th58 Fh58 (by omega) L60 gL60_0 gL60_1 gL60_2 gL60_3 gL60_4 gL60_5 gL60_6 (by omega) (by omega)
        · refine ex_il oq_X12_feed_47 q2 ?_
          refine ex_go oq_X12_feed_48 (t := 76) rfl rfl ?_
          refine ex_iswA oq_X12_feed_76 (fun L61 gL61_7 kL61 => ?_)
          have gL61_0 : cv_get L61 0 = some (cv_r 111) := kL61 0 _ (by decide) (fun q => absurd q (by decide)) q0
          have gL61_1 : cv_get L61 1 = some (cv_i a1) := kL61 1 _ (by decide) (fun q => absurd q (by decide)) q1
          have gL61_2 : cv_get L61 2 = some (cv_i a2) := kL61 2 _ (by decide) (fun q => absurd q (by decide)) q2
          have gL61_3 : cv_get L61 3 = some (cv_i a3) := kL61 3 _ (by decide) (fun q => absurd q (by decide)) q3
          have gL61_4 : cv_get L61 4 = some (cv_i a4) := kL61 4 _ (by decide) (fun q => absurd q (by decide)) q4
          have gL61_5 : cv_get L61 5 = some (cv_i a5) := kL61 5 _ (by decide) (fun q => absurd q (by decide)) q5
          have gL61_6 : cv_get L61 6 = some (cv_i k) := kL61 6 _ (by decide) (fun _ => rfl) q6
          refine ex_al oq_X12_feed_78 gL61_0 ?_
          refine ex_gf oq_X12_feed_79 Th (k := 111) (d := 12) rfl rfl (fr_tape Th) ?_
          refine ex_al oq_X12_feed_82 gL61_0 ?_
          obtain ⟨x62, ax62, rx62, lx62, ux62⟩ := fi_tapeSize Th
          refine ex_gf oq_X12_feed_83 Th (k := 111) (d := 12) rfl rfl ax62 ?_
          refine ex_ilw oq_X12_feed_86 gL61_6 ?_
          refine ex_add oq_X12_feed_88 (by omega) (fun x63 hx63 => ?_)
          refine ex_ilw oq_X12_feed_89 gL61_7 ?_
          refine ex_bi oq_X12_feed_91 (m := 24) (by decide) (fun x64 hx64 => ?_)
          refine ex_bi oq_X12_feed_93 (m := 8) (by decide) (fun x65 hx65 => ?_)
          refine ex_ilw oq_X12_feed_95 gL61_6 ?_
          refine ex_ic oq_X12_feed_97 (m := 4) (by decide) (fun x66 hx66 => ?_)
          refine ex_rem oq_X12_feed_98 (by omega) (fun x67 hx67 => ?_)
          refine ex_any (f := fun x y => some x) oq_X12_feed_99 rfl (fun x68 => ?_)
          refine ex_any (f := fun x y => some x) oq_X12_feed_100 rfl (fun x69 => ?_)
          refine ex_any (f := fun x y => some x) oq_X12_feed_101 rfl (fun x70 => ?_)
          refine ex_si oq_X12_feed_102 (m := 255) (by decide) (fun x71 hx71 => ?_)
          refine ex_any (f := fun x y => some x) oq_X12_feed_105 rfl (fun x72 => ?_)
          refine ex_iw1 oq_X12_feed_106 Th (k := 112) (d := 51) (j := (ri_at h 111 1).toNat + k.toInt.toNat) rfl rfl (by omega) (by omega) ⟨(cw_i32 _).1, (cw_i32 _).2⟩ (fun h73 Th73 wh73 => ?_)
          have Fh73 : cw_Fr cw_Ds cw_sh kk_X12_feed.2.2.2.2.2.1 h0 h73 := cw_Fr_tr Fh (cw_Fr_wrr wh73 (k := 112) (d := 51) rfl rfl (by decide +kernel))
          have eh73_1 : ri_at h73 111 1 = ri_at h 111 1 := ri_ne wh73 (.inl (by decide))
          refine ex_incA oq_X12_feed_107 (v := k) (m := 1) gL61_6 (by decide) (by omega) (fun L75 x74 hx74 gL75_6 kL75 => ?_)
          have gL75_7 : cv_get L75 7 = some (cv_i a2) := kL75 7 _ (by decide) (fun q => absurd q (by decide)) gL61_7
          have gL75_0 : cv_get L75 0 = some (cv_r 111) := kL75 0 _ (by decide) (fun q => absurd q (by decide)) gL61_0
          have gL75_1 : cv_get L75 1 = some (cv_i a1) := kL75 1 _ (by decide) (fun q => absurd q (by decide)) gL61_1
          have gL75_2 : cv_get L75 2 = some (cv_i a2) := kL75 2 _ (by decide) (fun q => absurd q (by decide)) gL61_2
          have gL75_3 : cv_get L75 3 = some (cv_i a3) := kL75 3 _ (by decide) (fun q => absurd q (by decide)) gL61_3
          have gL75_4 : cv_get L75 4 = some (cv_i a4) := kL75 4 _ (by decide) (fun q => absurd q (by decide)) gL61_4
          have gL75_5 : cv_get L75 5 = some (cv_i a5) := kL75 5 _ (by decide) (fun _ => rfl) gL61_5
          refine ex_go oq_X12_feed_110 (t := 23) rfl rfl ?_
          exfalso; omega -- x74 h73 Th73 Fh73 (by omega) L75 gL75_0 gL75_1 gL75_2 gL75_3 gL75_4 gL75_5 gL75_6 (by omega) (by omega)
      · refine ex_il oq_X12_feed_36 q1 ?_
        refine ex_go oq_X12_feed_37 (t := 76) rfl rfl ?_
        refine ex_iswA oq_X12_feed_76 (fun L76 gL76_7 kL76 => ?_)
        have gL76_0 : cv_get L76 0 = some (cv_r 111) := kL76 0 _ (by decide) (fun q => absurd q (by decide)) q0
        have gL76_1 : cv_get L76 1 = some (cv_i a1) := kL76 1 _ (by decide) (fun q => absurd q (by decide)) q1
        have gL76_2 : cv_get L76 2 = some (cv_i a2) := kL76 2 _ (by decide) (fun q => absurd q (by decide)) q2
        have gL76_3 : cv_get L76 3 = some (cv_i a3) := kL76 3 _ (by decide) (fun q => absurd q (by decide)) q3
        have gL76_4 : cv_get L76 4 = some (cv_i a4) := kL76 4 _ (by decide) (fun q => absurd q (by decide)) q4
        have gL76_5 : cv_get L76 5 = some (cv_i a5) := kL76 5 _ (by decide) (fun q => absurd q (by decide)) q5
        have gL76_6 : cv_get L76 6 = some (cv_i k) := kL76 6 _ (by decide) (fun _ => rfl) q6
        refine ex_al oq_X12_feed_78 gL76_0 ?_
        refine ex_gf oq_X12_feed_79 Th (k := 111) (d := 12) rfl rfl (fr_tape Th) ?_
        refine ex_al oq_X12_feed_82 gL76_0 ?_
        obtain ⟨x77, ax77, rx77, lx77, ux77⟩ := fi_tapeSize Th
        refine ex_gf oq_X12_feed_83 Th (k := 111) (d := 12) rfl rfl ax77 ?_
        refine ex_ilw oq_X12_feed_86 gL76_6 ?_
        refine ex_add oq_X12_feed_88 (by omega) (fun x78 hx78 => ?_)
        refine ex_ilw oq_X12_feed_89 gL76_7 ?_
        refine ex_bi oq_X12_feed_91 (m := 24) (by decide) (fun x79 hx79 => ?_)
        refine ex_bi oq_X12_feed_93 (m := 8) (by decide) (fun x80 hx80 => ?_)
        refine ex_ilw oq_X12_feed_95 gL76_6 ?_
        refine ex_ic oq_X12_feed_97 (m := 4) (by decide) (fun x81 hx81 => ?_)
        refine ex_rem oq_X12_feed_98 (by omega) (fun x82 hx82 => ?_)
        refine ex_any (f := fun x y => some x) oq_X12_feed_99 rfl (fun x83 => ?_)
        refine ex_any (f := fun x y => some x) oq_X12_feed_100 rfl (fun x84 => ?_)
        refine ex_any (f := fun x y => some x) oq_X12_feed_101 rfl (fun x85 => ?_)
        refine ex_si oq_X12_feed_102 (m := 255) (by decide) (fun x86 hx86 => ?_)
        refine ex_any (f := fun x y => some x) oq_X12_feed_105 rfl (fun x87 => ?_)
        refine ex_iw1 oq_X12_feed_106 Th (k := 112) (d := 51) (j := (ri_at h 111 1).toNat + k.toInt.toNat) rfl rfl (by omega) (by omega) ⟨(cw_i32 _).1, (cw_i32 _).2⟩ (fun h88 Th88 wh88 => ?_)
        have Fh88 : cw_Fr cw_Ds cw_sh kk_X12_feed.2.2.2.2.2.1 h0 h88 := cw_Fr_tr Fh (cw_Fr_wrr wh88 (k := 112) (d := 51) rfl rfl (by decide +kernel))
        have eh88_1 : ri_at h88 111 1 = ri_at h 111 1 := ri_ne wh88 (.inl (by decide))
        refine ex_incA oq_X12_feed_107 (v := k) (m := 1) gL76_6 (by decide) (by omega) (fun L90 x89 hx89 gL90_6 kL90 => ?_)
        have gL90_7 : cv_get L90 7 = some (cv_i a1) := kL90 7 _ (by decide) (fun q => absurd q (by decide)) gL76_7
        have gL90_0 : cv_get L90 0 = some (cv_r 111) := kL90 0 _ (by decide) (fun q => absurd q (by decide)) gL76_0
        have gL90_1 : cv_get L90 1 = some (cv_i a1) := kL90 1 _ (by decide) (fun q => absurd q (by decide)) gL76_1
        have gL90_2 : cv_get L90 2 = some (cv_i a2) := kL90 2 _ (by decide) (fun q => absurd q (by decide)) gL76_2
        have gL90_3 : cv_get L90 3 = some (cv_i a3) := kL90 3 _ (by decide) (fun q => absurd q (by decide)) gL76_3
        have gL90_4 : cv_get L90 4 = some (cv_i a4) := kL90 4 _ (by decide) (fun q => absurd q (by decide)) gL76_4
        have gL90_5 : cv_get L90 5 = some (cv_i a5) := kL90 5 _ (by decide) (fun _ => rfl) gL76_5
        refine ex_go oq_X12_feed_110 (t := 23) rfl rfl ?_
        exfalso; omega -- x89 h88 Th88 Fh88 (by omega) L90 gL90_0 gL90_1 gL90_2 gL90_3 gL90_4 gL90_5 gL90_6 (by omega) (by omega)
  | succ N ih =>
    intro k h Th Fh ht L q0 q1 q2 q3 q4 q5 q6 k0 hN
    refine ex_ilw oq_X12_feed_23 q6 ?_
    refine ex_bi oq_X12_feed_25 (m := 20) (by decide) (fun x1 hx1 => ?_)
    refine ex_if oq_X12_feed_27 (t := 113) rfl rfl (fun (c2 : x1.toInt ≤ k.toInt) => ?_) (fun (c2 : ¬ (x1.toInt ≤ k.toInt)) => ?_)
    · refine ex_al oq_X12_feed_113 q0 ?_
      refine ex_dup oq_X12_feed_114 rfl ?_
      obtain ⟨x3, ax3, rx3, lx3, ux3⟩ := fi_tapeSize Th
      refine ex_gf oq_X12_feed_115 Th (k := 111) (d := 12) rfl rfl ax3 ?_
      refine ex_bi oq_X12_feed_118 (m := 20) (by decide) (fun x4 hx4 => ?_)
      refine ex_add oq_X12_feed_120 (by omega) (fun x5 hx5 => ?_)
      refine ex_pfi oq_X12_feed_121 Th (k := 111) (d := 12) rfl rfl rfl (by omega) (by omega) (fun h6 Th6 wh6 => ?_)
      have Fh6 : cw_Fr cw_Ds cw_sh kk_X12_feed.2.2.2.2.2.1 h0 h6 := cw_Fr_tr Fh (cw_Fr_wrf wh6 (k := 111) (d := 12) rfl rfl (by decide +kernel))
      have eh6_1 : ri_at h6 111 1 = x5.toInt := ri_self wh6
      refine ex_al oq_X12_feed_124 q0 ?_
      obtain ⟨x7, ax7, rx7, lx7, ux7⟩ := fi_tapeSize Th6
      refine ex_gf oq_X12_feed_125 Th6 (k := 111) (d := 12) rfl rfl ax7 ?_
      exact ex_reti oq_X12_feed_128 rfl (hQ x7 h6 Th6 Fh6 (by omega))
    · refine ex_ilw oq_X12_feed_30 q6 ?_
      refine ex_ic oq_X12_feed_32 (m := 4) (by decide) (fun x8 hx8 => ?_)
      refine ex_if oq_X12_feed_33 (t := 40) rfl rfl (fun (c9 : x8.toInt ≤ k.toInt) => ?_) (fun (c9 : ¬ (x8.toInt ≤ k.toInt)) => ?_)
      · refine ex_ilw oq_X12_feed_40 q6 ?_
        refine ex_bi oq_X12_feed_42 (m := 8) (by decide) (fun x10 hx10 => ?_)
        refine ex_if oq_X12_feed_44 (t := 51) rfl rfl (fun (c11 : x10.toInt ≤ k.toInt) => ?_) (fun (c11 : ¬ (x10.toInt ≤ k.toInt)) => ?_)
        · refine ex_ilw oq_X12_feed_51 q6 ?_
          refine ex_bi oq_X12_feed_53 (m := 12) (by decide) (fun x12 hx12 => ?_)
          refine ex_if oq_X12_feed_55 (t := 62) rfl rfl (fun (c13 : x12.toInt ≤ k.toInt) => ?_) (fun (c13 : ¬ (x12.toInt ≤ k.toInt)) => ?_)
          · refine ex_ilw oq_X12_feed_62 q6 ?_
            refine ex_bi oq_X12_feed_64 (m := 16) (by decide) (fun x14 hx14 => ?_)
            refine ex_if oq_X12_feed_66 (t := 74) rfl rfl (fun (c15 : x14.toInt ≤ k.toInt) => ?_) (fun (c15 : ¬ (x14.toInt ≤ k.toInt)) => ?_)
            · refine ex_ilw oq_X12_feed_74 q5 ?_
              refine ex_iswA oq_X12_feed_76 (fun L16 gL16_7 kL16 => ?_)
              have gL16_0 : cv_get L16 0 = some (cv_r 111) := kL16 0 _ (by decide) (fun q => absurd q (by decide)) q0
              have gL16_1 : cv_get L16 1 = some (cv_i a1) := kL16 1 _ (by decide) (fun q => absurd q (by decide)) q1
              have gL16_2 : cv_get L16 2 = some (cv_i a2) := kL16 2 _ (by decide) (fun q => absurd q (by decide)) q2
              have gL16_3 : cv_get L16 3 = some (cv_i a3) := kL16 3 _ (by decide) (fun q => absurd q (by decide)) q3
              have gL16_4 : cv_get L16 4 = some (cv_i a4) := kL16 4 _ (by decide) (fun q => absurd q (by decide)) q4
              have gL16_5 : cv_get L16 5 = some (cv_i a5) := kL16 5 _ (by decide) (fun q => absurd q (by decide)) q5
              have gL16_6 : cv_get L16 6 = some (cv_i k) := kL16 6 _ (by decide) (fun _ => rfl) q6
              refine ex_al oq_X12_feed_78 gL16_0 ?_
              refine ex_gf oq_X12_feed_79 Th (k := 111) (d := 12) rfl rfl (fr_tape Th) ?_
              refine ex_al oq_X12_feed_82 gL16_0 ?_
              obtain ⟨x17, ax17, rx17, lx17, ux17⟩ := fi_tapeSize Th
              refine ex_gf oq_X12_feed_83 Th (k := 111) (d := 12) rfl rfl ax17 ?_
              refine ex_ilw oq_X12_feed_86 gL16_6 ?_
              refine ex_add oq_X12_feed_88 (by omega) (fun x18 hx18 => ?_)
              refine ex_ilw oq_X12_feed_89 gL16_7 ?_
              refine ex_bi oq_X12_feed_91 (m := 24) (by decide) (fun x19 hx19 => ?_)
              refine ex_bi oq_X12_feed_93 (m := 8) (by decide) (fun x20 hx20 => ?_)
              refine ex_ilw oq_X12_feed_95 gL16_6 ?_
              refine ex_ic oq_X12_feed_97 (m := 4) (by decide) (fun x21 hx21 => ?_)
              refine ex_rem oq_X12_feed_98 (by omega) (fun x22 hx22 => ?_)
              refine ex_any (f := fun x y => some x) oq_X12_feed_99 rfl (fun x23 => ?_)
              refine ex_any (f := fun x y => some x) oq_X12_feed_100 rfl (fun x24 => ?_)
              refine ex_any (f := fun x y => some x) oq_X12_feed_101 rfl (fun x25 => ?_)
              refine ex_si oq_X12_feed_102 (m := 255) (by decide) (fun x26 hx26 => ?_)
              refine ex_any (f := fun x y => some x) oq_X12_feed_105 rfl (fun x27 => ?_)
              refine ex_iw1 oq_X12_feed_106 Th (k := 112) (d := 51) (j := (ri_at h 111 1).toNat + k.toInt.toNat) rfl rfl (by omega) (by omega) ⟨(cw_i32 _).1, (cw_i32 _).2⟩ (fun h28 Th28 wh28 => ?_)
              have Fh28 : cw_Fr cw_Ds cw_sh kk_X12_feed.2.2.2.2.2.1 h0 h28 := cw_Fr_tr Fh (cw_Fr_wrr wh28 (k := 112) (d := 51) rfl rfl (by decide +kernel))
              have eh28_1 : ri_at h28 111 1 = ri_at h 111 1 := ri_ne wh28 (.inl (by decide))
              refine ex_incA oq_X12_feed_107 (v := k) (m := 1) gL16_6 (by decide) (by omega) (fun L30 x29 hx29 gL30_6 kL30 => ?_)
              have gL30_7 : cv_get L30 7 = some (cv_i a5) := kL30 7 _ (by decide) (fun q => absurd q (by decide)) gL16_7
              have gL30_0 : cv_get L30 0 = some (cv_r 111) := kL30 0 _ (by decide) (fun q => absurd q (by decide)) gL16_0
              have gL30_1 : cv_get L30 1 = some (cv_i a1) := kL30 1 _ (by decide) (fun q => absurd q (by decide)) gL16_1
              have gL30_2 : cv_get L30 2 = some (cv_i a2) := kL30 2 _ (by decide) (fun q => absurd q (by decide)) gL16_2
              have gL30_3 : cv_get L30 3 = some (cv_i a3) := kL30 3 _ (by decide) (fun q => absurd q (by decide)) gL16_3
              have gL30_4 : cv_get L30 4 = some (cv_i a4) := kL30 4 _ (by decide) (fun q => absurd q (by decide)) gL16_4
              have gL30_5 : cv_get L30 5 = some (cv_i a5) := kL30 5 _ (by decide) (fun _ => rfl) gL16_5
              refine ex_go oq_X12_feed_110 (t := 23) rfl rfl ?_
              exact ih x29 h28 Th28 Fh28 (by omega) L30 gL30_0 gL30_1 gL30_2 gL30_3 gL30_4 gL30_5 gL30_6 (by omega) (by omega)
            · refine ex_ilw oq_X12_feed_69 q4 ?_
              refine ex_go oq_X12_feed_71 (t := 76) rfl rfl ?_
              refine ex_iswA oq_X12_feed_76 (fun L31 gL31_7 kL31 => ?_)
              have gL31_0 : cv_get L31 0 = some (cv_r 111) := kL31 0 _ (by decide) (fun q => absurd q (by decide)) q0
              have gL31_1 : cv_get L31 1 = some (cv_i a1) := kL31 1 _ (by decide) (fun q => absurd q (by decide)) q1
              have gL31_2 : cv_get L31 2 = some (cv_i a2) := kL31 2 _ (by decide) (fun q => absurd q (by decide)) q2
              have gL31_3 : cv_get L31 3 = some (cv_i a3) := kL31 3 _ (by decide) (fun q => absurd q (by decide)) q3
              have gL31_4 : cv_get L31 4 = some (cv_i a4) := kL31 4 _ (by decide) (fun q => absurd q (by decide)) q4
              have gL31_5 : cv_get L31 5 = some (cv_i a5) := kL31 5 _ (by decide) (fun q => absurd q (by decide)) q5
              have gL31_6 : cv_get L31 6 = some (cv_i k) := kL31 6 _ (by decide) (fun _ => rfl) q6
              refine ex_al oq_X12_feed_78 gL31_0 ?_
              refine ex_gf oq_X12_feed_79 Th (k := 111) (d := 12) rfl rfl (fr_tape Th) ?_
              refine ex_al oq_X12_feed_82 gL31_0 ?_
              obtain ⟨x32, ax32, rx32, lx32, ux32⟩ := fi_tapeSize Th
              refine ex_gf oq_X12_feed_83 Th (k := 111) (d := 12) rfl rfl ax32 ?_
              refine ex_ilw oq_X12_feed_86 gL31_6 ?_
              refine ex_add oq_X12_feed_88 (by omega) (fun x33 hx33 => ?_)
              refine ex_ilw oq_X12_feed_89 gL31_7 ?_
              refine ex_bi oq_X12_feed_91 (m := 24) (by decide) (fun x34 hx34 => ?_)
              refine ex_bi oq_X12_feed_93 (m := 8) (by decide) (fun x35 hx35 => ?_)
              refine ex_ilw oq_X12_feed_95 gL31_6 ?_
              refine ex_ic oq_X12_feed_97 (m := 4) (by decide) (fun x36 hx36 => ?_)
              refine ex_rem oq_X12_feed_98 (by omega) (fun x37 hx37 => ?_)
              refine ex_any (f := fun x y => some x) oq_X12_feed_99 rfl (fun x38 => ?_)
              refine ex_any (f := fun x y => some x) oq_X12_feed_100 rfl (fun x39 => ?_)
              refine ex_any (f := fun x y => some x) oq_X12_feed_101 rfl (fun x40 => ?_)
              refine ex_si oq_X12_feed_102 (m := 255) (by decide) (fun x41 hx41 => ?_)
              refine ex_any (f := fun x y => some x) oq_X12_feed_105 rfl (fun x42 => ?_)
              refine ex_iw1 oq_X12_feed_106 Th (k := 112) (d := 51) (j := (ri_at h 111 1).toNat + k.toInt.toNat) rfl rfl (by omega) (by omega) ⟨(cw_i32 _).1, (cw_i32 _).2⟩ (fun h43 Th43 wh43 => ?_)
              have Fh43 : cw_Fr cw_Ds cw_sh kk_X12_feed.2.2.2.2.2.1 h0 h43 := cw_Fr_tr Fh (cw_Fr_wrr wh43 (k := 112) (d := 51) rfl rfl (by decide +kernel))
              have eh43_1 : ri_at h43 111 1 = ri_at h 111 1 := ri_ne wh43 (.inl (by decide))
              refine ex_incA oq_X12_feed_107 (v := k) (m := 1) gL31_6 (by decide) (by omega) (fun L45 x44 hx44 gL45_6 kL45 => ?_)
              have gL45_7 : cv_get L45 7 = some (cv_i a4) := kL45 7 _ (by decide) (fun q => absurd q (by decide)) gL31_7
              have gL45_0 : cv_get L45 0 = some (cv_r 111) := kL45 0 _ (by decide) (fun q => absurd q (by decide)) gL31_0
              have gL45_1 : cv_get L45 1 = some (cv_i a1) := kL45 1 _ (by decide) (fun q => absurd q (by decide)) gL31_1
              have gL45_2 : cv_get L45 2 = some (cv_i a2) := kL45 2 _ (by decide) (fun q => absurd q (by decide)) gL31_2
              have gL45_3 : cv_get L45 3 = some (cv_i a3) := kL45 3 _ (by decide) (fun q => absurd q (by decide)) gL31_3
              have gL45_4 : cv_get L45 4 = some (cv_i a4) := kL45 4 _ (by decide) (fun q => absurd q (by decide)) gL31_4
              have gL45_5 : cv_get L45 5 = some (cv_i a5) := kL45 5 _ (by decide) (fun _ => rfl) gL31_5
              refine ex_go oq_X12_feed_110 (t := 23) rfl rfl ?_
              exact ih x44 h43 Th43 Fh43 (by omega) L45 gL45_0 gL45_1 gL45_2 gL45_3 gL45_4 gL45_5 gL45_6 (by omega) (by omega)
          · refine ex_il oq_X12_feed_58 q3 ?_
            refine ex_go oq_X12_feed_59 (t := 76) rfl rfl ?_
            refine ex_iswA oq_X12_feed_76 (fun L46 gL46_7 kL46 => ?_)
            have gL46_0 : cv_get L46 0 = some (cv_r 111) := kL46 0 _ (by decide) (fun q => absurd q (by decide)) q0
            have gL46_1 : cv_get L46 1 = some (cv_i a1) := kL46 1 _ (by decide) (fun q => absurd q (by decide)) q1
            have gL46_2 : cv_get L46 2 = some (cv_i a2) := kL46 2 _ (by decide) (fun q => absurd q (by decide)) q2
            have gL46_3 : cv_get L46 3 = some (cv_i a3) := kL46 3 _ (by decide) (fun q => absurd q (by decide)) q3
            have gL46_4 : cv_get L46 4 = some (cv_i a4) := kL46 4 _ (by decide) (fun q => absurd q (by decide)) q4
            have gL46_5 : cv_get L46 5 = some (cv_i a5) := kL46 5 _ (by decide) (fun q => absurd q (by decide)) q5
            have gL46_6 : cv_get L46 6 = some (cv_i k) := kL46 6 _ (by decide) (fun _ => rfl) q6
            refine ex_al oq_X12_feed_78 gL46_0 ?_
            refine ex_gf oq_X12_feed_79 Th (k := 111) (d := 12) rfl rfl (fr_tape Th) ?_
            refine ex_al oq_X12_feed_82 gL46_0 ?_
            obtain ⟨x47, ax47, rx47, lx47, ux47⟩ := fi_tapeSize Th
            refine ex_gf oq_X12_feed_83 Th (k := 111) (d := 12) rfl rfl ax47 ?_
            refine ex_ilw oq_X12_feed_86 gL46_6 ?_
            refine ex_add oq_X12_feed_88 (by omega) (fun x48 hx48 => ?_)
            refine ex_ilw oq_X12_feed_89 gL46_7 ?_
            refine ex_bi oq_X12_feed_91 (m := 24) (by decide) (fun x49 hx49 => ?_)
            refine ex_bi oq_X12_feed_93 (m := 8) (by decide) (fun x50 hx50 => ?_)
            refine ex_ilw oq_X12_feed_95 gL46_6 ?_
            refine ex_ic oq_X12_feed_97 (m := 4) (by decide) (fun x51 hx51 => ?_)
            refine ex_rem oq_X12_feed_98 (by omega) (fun x52 hx52 => ?_)
            refine ex_any (f := fun x y => some x) oq_X12_feed_99 rfl (fun x53 => ?_)
            refine ex_any (f := fun x y => some x) oq_X12_feed_100 rfl (fun x54 => ?_)
            refine ex_any (f := fun x y => some x) oq_X12_feed_101 rfl (fun x55 => ?_)
            refine ex_si oq_X12_feed_102 (m := 255) (by decide) (fun x56 hx56 => ?_)
            refine ex_any (f := fun x y => some x) oq_X12_feed_105 rfl (fun x57 => ?_)
            refine ex_iw1 oq_X12_feed_106 Th (k := 112) (d := 51) (j := (ri_at h 111 1).toNat + k.toInt.toNat) rfl rfl (by omega) (by omega) ⟨(cw_i32 _).1, (cw_i32 _).2⟩ (fun h58 Th58 wh58 => ?_)
            have Fh58 : cw_Fr cw_Ds cw_sh kk_X12_feed.2.2.2.2.2.1 h0 h58 := cw_Fr_tr Fh (cw_Fr_wrr wh58 (k := 112) (d := 51) rfl rfl (by decide +kernel))
            have eh58_1 : ri_at h58 111 1 = ri_at h 111 1 := ri_ne wh58 (.inl (by decide))
            refine ex_incA oq_X12_feed_107 (v := k) (m := 1) gL46_6 (by decide) (by omega) (fun L60 x59 hx59 gL60_6 kL60 => ?_)
            have gL60_7 : cv_get L60 7 = some (cv_i a3) := kL60 7 _ (by decide) (fun q => absurd q (by decide)) gL46_7
            have gL60_0 : cv_get L60 0 = some (cv_r 111) := kL60 0 _ (by decide) (fun q => absurd q (by decide)) gL46_0
            have gL60_1 : cv_get L60 1 = some (cv_i a1) := kL60 1 _ (by decide) (fun q => absurd q (by decide)) gL46_1
            have gL60_2 : cv_get L60 2 = some (cv_i a2) := kL60 2 _ (by decide) (fun q => absurd q (by decide)) gL46_2
            have gL60_3 : cv_get L60 3 = some (cv_i a3) := kL60 3 _ (by decide) (fun q => absurd q (by decide)) gL46_3
            have gL60_4 : cv_get L60 4 = some (cv_i a4) := kL60 4 _ (by decide) (fun q => absurd q (by decide)) gL46_4
            have gL60_5 : cv_get L60 5 = some (cv_i a5) := kL60 5 _ (by decide) (fun _ => rfl) gL46_5
            refine ex_go oq_X12_feed_110 (t := 23) rfl rfl ?_
            exact ih x59 h58 Th58 Fh58 (by omega) L60 gL60_0 gL60_1 gL60_2 gL60_3 gL60_4 gL60_5 gL60_6 (by omega) (by omega)
        · refine ex_il oq_X12_feed_47 q2 ?_
          refine ex_go oq_X12_feed_48 (t := 76) rfl rfl ?_
          refine ex_iswA oq_X12_feed_76 (fun L61 gL61_7 kL61 => ?_)
          have gL61_0 : cv_get L61 0 = some (cv_r 111) := kL61 0 _ (by decide) (fun q => absurd q (by decide)) q0
          have gL61_1 : cv_get L61 1 = some (cv_i a1) := kL61 1 _ (by decide) (fun q => absurd q (by decide)) q1
          have gL61_2 : cv_get L61 2 = some (cv_i a2) := kL61 2 _ (by decide) (fun q => absurd q (by decide)) q2
          have gL61_3 : cv_get L61 3 = some (cv_i a3) := kL61 3 _ (by decide) (fun q => absurd q (by decide)) q3
          have gL61_4 : cv_get L61 4 = some (cv_i a4) := kL61 4 _ (by decide) (fun q => absurd q (by decide)) q4
          have gL61_5 : cv_get L61 5 = some (cv_i a5) := kL61 5 _ (by decide) (fun q => absurd q (by decide)) q5
          have gL61_6 : cv_get L61 6 = some (cv_i k) := kL61 6 _ (by decide) (fun _ => rfl) q6
          refine ex_al oq_X12_feed_78 gL61_0 ?_
          refine ex_gf oq_X12_feed_79 Th (k := 111) (d := 12) rfl rfl (fr_tape Th) ?_
          refine ex_al oq_X12_feed_82 gL61_0 ?_
          obtain ⟨x62, ax62, rx62, lx62, ux62⟩ := fi_tapeSize Th
          refine ex_gf oq_X12_feed_83 Th (k := 111) (d := 12) rfl rfl ax62 ?_
          refine ex_ilw oq_X12_feed_86 gL61_6 ?_
          refine ex_add oq_X12_feed_88 (by omega) (fun x63 hx63 => ?_)
          refine ex_ilw oq_X12_feed_89 gL61_7 ?_
          refine ex_bi oq_X12_feed_91 (m := 24) (by decide) (fun x64 hx64 => ?_)
          refine ex_bi oq_X12_feed_93 (m := 8) (by decide) (fun x65 hx65 => ?_)
          refine ex_ilw oq_X12_feed_95 gL61_6 ?_
          refine ex_ic oq_X12_feed_97 (m := 4) (by decide) (fun x66 hx66 => ?_)
          refine ex_rem oq_X12_feed_98 (by omega) (fun x67 hx67 => ?_)
          refine ex_any (f := fun x y => some x) oq_X12_feed_99 rfl (fun x68 => ?_)
          refine ex_any (f := fun x y => some x) oq_X12_feed_100 rfl (fun x69 => ?_)
          refine ex_any (f := fun x y => some x) oq_X12_feed_101 rfl (fun x70 => ?_)
          refine ex_si oq_X12_feed_102 (m := 255) (by decide) (fun x71 hx71 => ?_)
          refine ex_any (f := fun x y => some x) oq_X12_feed_105 rfl (fun x72 => ?_)
          refine ex_iw1 oq_X12_feed_106 Th (k := 112) (d := 51) (j := (ri_at h 111 1).toNat + k.toInt.toNat) rfl rfl (by omega) (by omega) ⟨(cw_i32 _).1, (cw_i32 _).2⟩ (fun h73 Th73 wh73 => ?_)
          have Fh73 : cw_Fr cw_Ds cw_sh kk_X12_feed.2.2.2.2.2.1 h0 h73 := cw_Fr_tr Fh (cw_Fr_wrr wh73 (k := 112) (d := 51) rfl rfl (by decide +kernel))
          have eh73_1 : ri_at h73 111 1 = ri_at h 111 1 := ri_ne wh73 (.inl (by decide))
          refine ex_incA oq_X12_feed_107 (v := k) (m := 1) gL61_6 (by decide) (by omega) (fun L75 x74 hx74 gL75_6 kL75 => ?_)
          have gL75_7 : cv_get L75 7 = some (cv_i a2) := kL75 7 _ (by decide) (fun q => absurd q (by decide)) gL61_7
          have gL75_0 : cv_get L75 0 = some (cv_r 111) := kL75 0 _ (by decide) (fun q => absurd q (by decide)) gL61_0
          have gL75_1 : cv_get L75 1 = some (cv_i a1) := kL75 1 _ (by decide) (fun q => absurd q (by decide)) gL61_1
          have gL75_2 : cv_get L75 2 = some (cv_i a2) := kL75 2 _ (by decide) (fun q => absurd q (by decide)) gL61_2
          have gL75_3 : cv_get L75 3 = some (cv_i a3) := kL75 3 _ (by decide) (fun q => absurd q (by decide)) gL61_3
          have gL75_4 : cv_get L75 4 = some (cv_i a4) := kL75 4 _ (by decide) (fun q => absurd q (by decide)) gL61_4
          have gL75_5 : cv_get L75 5 = some (cv_i a5) := kL75 5 _ (by decide) (fun _ => rfl) gL61_5
          refine ex_go oq_X12_feed_110 (t := 23) rfl rfl ?_
          exact ih x74 h73 Th73 Fh73 (by omega) L75 gL75_0 gL75_1 gL75_2 gL75_3 gL75_4 gL75_5 gL75_6 (by omega) (by omega)
      · refine ex_il oq_X12_feed_36 q1 ?_
        refine ex_go oq_X12_feed_37 (t := 76) rfl rfl ?_
        refine ex_iswA oq_X12_feed_76 (fun L76 gL76_7 kL76 => ?_)
        have gL76_0 : cv_get L76 0 = some (cv_r 111) := kL76 0 _ (by decide) (fun q => absurd q (by decide)) q0
        have gL76_1 : cv_get L76 1 = some (cv_i a1) := kL76 1 _ (by decide) (fun q => absurd q (by decide)) q1
        have gL76_2 : cv_get L76 2 = some (cv_i a2) := kL76 2 _ (by decide) (fun q => absurd q (by decide)) q2
        have gL76_3 : cv_get L76 3 = some (cv_i a3) := kL76 3 _ (by decide) (fun q => absurd q (by decide)) q3
        have gL76_4 : cv_get L76 4 = some (cv_i a4) := kL76 4 _ (by decide) (fun q => absurd q (by decide)) q4
        have gL76_5 : cv_get L76 5 = some (cv_i a5) := kL76 5 _ (by decide) (fun q => absurd q (by decide)) q5
        have gL76_6 : cv_get L76 6 = some (cv_i k) := kL76 6 _ (by decide) (fun _ => rfl) q6
        refine ex_al oq_X12_feed_78 gL76_0 ?_
        refine ex_gf oq_X12_feed_79 Th (k := 111) (d := 12) rfl rfl (fr_tape Th) ?_
        refine ex_al oq_X12_feed_82 gL76_0 ?_
        obtain ⟨x77, ax77, rx77, lx77, ux77⟩ := fi_tapeSize Th
        refine ex_gf oq_X12_feed_83 Th (k := 111) (d := 12) rfl rfl ax77 ?_
        refine ex_ilw oq_X12_feed_86 gL76_6 ?_
        refine ex_add oq_X12_feed_88 (by omega) (fun x78 hx78 => ?_)
        refine ex_ilw oq_X12_feed_89 gL76_7 ?_
        refine ex_bi oq_X12_feed_91 (m := 24) (by decide) (fun x79 hx79 => ?_)
        refine ex_bi oq_X12_feed_93 (m := 8) (by decide) (fun x80 hx80 => ?_)
        refine ex_ilw oq_X12_feed_95 gL76_6 ?_
        refine ex_ic oq_X12_feed_97 (m := 4) (by decide) (fun x81 hx81 => ?_)
        refine ex_rem oq_X12_feed_98 (by omega) (fun x82 hx82 => ?_)
        refine ex_any (f := fun x y => some x) oq_X12_feed_99 rfl (fun x83 => ?_)
        refine ex_any (f := fun x y => some x) oq_X12_feed_100 rfl (fun x84 => ?_)
        refine ex_any (f := fun x y => some x) oq_X12_feed_101 rfl (fun x85 => ?_)
        refine ex_si oq_X12_feed_102 (m := 255) (by decide) (fun x86 hx86 => ?_)
        refine ex_any (f := fun x y => some x) oq_X12_feed_105 rfl (fun x87 => ?_)
        refine ex_iw1 oq_X12_feed_106 Th (k := 112) (d := 51) (j := (ri_at h 111 1).toNat + k.toInt.toNat) rfl rfl (by omega) (by omega) ⟨(cw_i32 _).1, (cw_i32 _).2⟩ (fun h88 Th88 wh88 => ?_)
        have Fh88 : cw_Fr cw_Ds cw_sh kk_X12_feed.2.2.2.2.2.1 h0 h88 := cw_Fr_tr Fh (cw_Fr_wrr wh88 (k := 112) (d := 51) rfl rfl (by decide +kernel))
        have eh88_1 : ri_at h88 111 1 = ri_at h 111 1 := ri_ne wh88 (.inl (by decide))
        refine ex_incA oq_X12_feed_107 (v := k) (m := 1) gL76_6 (by decide) (by omega) (fun L90 x89 hx89 gL90_6 kL90 => ?_)
        have gL90_7 : cv_get L90 7 = some (cv_i a1) := kL90 7 _ (by decide) (fun q => absurd q (by decide)) gL76_7
        have gL90_0 : cv_get L90 0 = some (cv_r 111) := kL90 0 _ (by decide) (fun q => absurd q (by decide)) gL76_0
        have gL90_1 : cv_get L90 1 = some (cv_i a1) := kL90 1 _ (by decide) (fun q => absurd q (by decide)) gL76_1
        have gL90_2 : cv_get L90 2 = some (cv_i a2) := kL90 2 _ (by decide) (fun q => absurd q (by decide)) gL76_2
        have gL90_3 : cv_get L90 3 = some (cv_i a3) := kL90 3 _ (by decide) (fun q => absurd q (by decide)) gL76_3
        have gL90_4 : cv_get L90 4 = some (cv_i a4) := kL90 4 _ (by decide) (fun q => absurd q (by decide)) gL76_4
        have gL90_5 : cv_get L90 5 = some (cv_i a5) := kL90 5 _ (by decide) (fun _ => rfl) gL76_5
        refine ex_go oq_X12_feed_110 (t := 23) rfl rfl ?_
        exact ih x89 h88 Th88 Fh88 (by omega) L90 gL90_0 gL90_1 gL90_2 gL90_3 gL90_4 gL90_5 gL90_6 (by omega) (by omega)
theorem sp_feedR {h0 : cv_H} (hT : cw_T G h0) (a1 a2 a3 a4 a5 : Int32) (hQ : ∀ (x : Int32) h', cw_T G h' → cw_Fr cw_Ds cw_sh kk_X12_feed.2.2.2.2.2.1 h0 h' → (880 < ri_at h0 111 1 ∧ x.toInt = -1 ∧ ri_at h' 111 1 = ri_at h0 111 1 ∨ ri_at h0 111 1 ≤ 880 ∧ x.toInt = ri_at h0 111 1 + 20 ∧ ri_at h' 111 1 = ri_at h0 111 1 + 20) → Q (some (cv_i x), h')) : cw_X X 155 Q 0 (cv_ent 0 [cv_r 111, cv_i a1, cv_i a2, cv_i a3, cv_i a4, cv_i a5]) [] h0 := by
  have Fh0 : cw_Fr cw_Ds cw_sh kk_X12_feed.2.2.2.2.2.1 h0 h0 := cw_Fr_refl
  refine ex_al oq_X12_feed_0 rfl ?_
  refine ex_ic oq_X12_feed_1 (m := 0) (by decide) (fun x2001 hx2001 => ?_)
  refine ex_pfi oq_X12_feed_2 hT (k := 111) (d := 12) rfl rfl rfl (cw_i32 _).1 (cw_i32 _).2 (fun h2002 Th2002 wh2002 => ?_)
  have Fh2002 : cw_Fr cw_Ds cw_sh kk_X12_feed.2.2.2.2.2.1 h0 h2002 := cw_Fr_tr Fh0 (cw_Fr_wrf wh2002 (k := 111) (d := 12) rfl rfl (by decide +kernel))
  have eh2002_1 : ri_at h2002 111 1 = ri_at h0 111 1 := ri_ne wh2002 (by decide)
  refine ex_al oq_X12_feed_5 rfl ?_
  obtain ⟨x2003, ax2003, rx2003, lx2003, ux2003⟩ := fi_tapeSize Th2002
  refine ex_gf oq_X12_feed_6 Th2002 (k := 111) (d := 12) rfl rfl ax2003 ?_
  refine ex_bi oq_X12_feed_9 (m := 20) (by decide) (fun x2004 hx2004 => ?_)
  refine ex_add oq_X12_feed_11 (by omega) (fun x2005 hx2005 => ?_)
  refine ex_si oq_X12_feed_12 (m := 900) (by decide) (fun x2006 hx2006 => ?_)
  refine ex_if oq_X12_feed_15 (t := 20) rfl rfl (fun (c2007 : x2005.toInt ≤ x2006.toInt) => ?_) (fun (c2007 : ¬ (x2005.toInt ≤ x2006.toInt)) => ?_)
  · refine ex_ic oq_X12_feed_20 (m := 0) (by decide) (fun x2008 hx2008 => ?_)
    refine ex_iswA oq_X12_feed_21 (fun L2009 gL2009_6 kL2009 => ?_)
    have gL2009_0 : cv_get L2009 0 = some (cv_r 111) := kL2009 0 _ (by decide) (fun q => absurd q (by decide)) rfl
    have gL2009_1 : cv_get L2009 1 = some (cv_i a1) := kL2009 1 _ (by decide) (fun q => absurd q (by decide)) rfl
    have gL2009_2 : cv_get L2009 2 = some (cv_i a2) := kL2009 2 _ (by decide) (fun q => absurd q (by decide)) rfl
    have gL2009_3 : cv_get L2009 3 = some (cv_i a3) := kL2009 3 _ (by decide) (fun q => absurd q (by decide)) rfl
    have gL2009_4 : cv_get L2009 4 = some (cv_i a4) := kL2009 4 _ (by decide) (fun q => absurd q (by decide)) rfl
    have gL2009_5 : cv_get L2009 5 = some (cv_i a5) := kL2009 5 _ (by decide) (fun _ => rfl) rfl
    exact fd_23 a1 a2 a3 a4 a5 hQ (by omega) _ x2008 h2002 Th2002 Fh2002 (by omega) L2009 gL2009_0 gL2009_1 gL2009_2 gL2009_3 gL2009_4 gL2009_5 gL2009_6 (by omega) (Nat.le_refl _)
  · refine ex_ic oq_X12_feed_18 (m := (-1)) (by decide) (fun x2010 hx2010 => ?_)
    exact ex_reti oq_X12_feed_19 rfl (hQ x2010 h2002 Th2002 Fh2002 (by omega))
end SPZB
