/-! ===== methods walked by hand: measures ===== -/
section SPE
variable {G : Int}
theorem oq_X12_layCounts_0 : cw_ho 242 0 (.iconst 0) 1 0 0 0 := rfl
theorem oq_X12_layCounts_1 : cw_ho 242 1 (.istore_n 1) 1 0 0 0 := rfl
theorem oq_X12_layCounts_2 : cw_ho 242 2 (.iload_n 1) 1 0 0 0 := rfl
theorem oq_X12_layCounts_3 : cw_ho 242 3 (.aload_n 0) 1 0 0 0 := rfl
theorem oq_X12_layCounts_4 : cw_ho 242 4 (.invokevirtual 442) 3 241 0 12 := rfl
theorem oq_X12_layCounts_7 : cw_ho 242 7 (.if_icmp .ge 16) 3 0 0 0 := rfl
theorem oq_X12_layCounts_10 : cw_ho 242 10 (.aload_n 0) 1 0 0 0 := rfl
theorem oq_X12_layCounts_11 : cw_ho 242 11 (.getfield 106) 3 12 59 4 := rfl
theorem oq_X12_layCounts_14 : cw_ho 242 14 (.iload_n 1) 1 0 0 0 := rfl
theorem oq_X12_layCounts_15 : cw_ho 242 15 (.iconst 1) 1 0 0 0 := rfl
theorem oq_X12_layCounts_16 : cw_ho 242 16 (.bastore) 1 0 0 0 := rfl
theorem oq_X12_layCounts_17 : cw_ho 242 17 (.iinc 1 1) 3 0 0 0 := rfl
theorem oq_X12_layCounts_20 : cw_ho 242 20 (.goto (-18)) 3 0 0 0 := rfl
theorem oq_X12_layCounts_23 : cw_ho 242 23 (.aload_n 0) 1 0 0 0 := rfl
theorem oq_X12_layCounts_24 : cw_ho 242 24 (.invokevirtual 442) 3 241 0 12 := rfl
theorem oq_X12_layCounts_27 : cw_ho 242 27 (.iconst 1) 1 0 0 0 := rfl
theorem oq_X12_layCounts_28 : cw_ho 242 28 (.isub) 1 0 0 0 := rfl
theorem oq_X12_layCounts_29 : cw_ho 242 29 (.istore_n 1) 1 0 0 0 := rfl
theorem oq_X12_layCounts_30 : cw_ho 242 30 (.iload_n 1) 1 0 0 0 := rfl
theorem oq_X12_layCounts_31 : cw_ho 242 31 (.ifCond .lt 39) 3 0 0 0 := rfl
theorem oq_X12_layCounts_34 : cw_ho 242 34 (.aload_n 0) 1 0 0 0 := rfl
theorem oq_X12_layCounts_35 : cw_ho 242 35 (.getfield 91) 3 12 54 4 := rfl
theorem oq_X12_layCounts_38 : cw_ho 242 38 (.iload_n 1) 1 0 0 0 := rfl
theorem oq_X12_layCounts_39 : cw_ho 242 39 (.iaload) 1 0 0 0 := rfl
theorem oq_X12_layCounts_40 : cw_ho 242 40 (.ifCond .ge 24) 3 0 0 0 := rfl
theorem oq_X12_layCounts_43 : cw_ho 242 43 (.aload_n 0) 1 0 0 0 := rfl
theorem oq_X12_layCounts_44 : cw_ho 242 44 (.getfield 106) 3 12 59 4 := rfl
theorem oq_X12_layCounts_47 : cw_ho 242 47 (.iload_n 1) 1 0 0 0 := rfl
theorem oq_X12_layCounts_48 : cw_ho 242 48 (.baload) 1 0 0 0 := rfl
theorem oq_X12_layCounts_49 : cw_ho 242 49 (.ifCond .eq 15) 3 0 0 0 := rfl
theorem oq_X12_layCounts_52 : cw_ho 242 52 (.aload_n 0) 1 0 0 0 := rfl
theorem oq_X12_layCounts_53 : cw_ho 242 53 (.getfield 106) 3 12 59 4 := rfl
theorem oq_X12_layCounts_56 : cw_ho 242 56 (.aload_n 0) 1 0 0 0 := rfl
theorem oq_X12_layCounts_57 : cw_ho 242 57 (.getfield 94) 3 12 55 4 := rfl
theorem oq_X12_layCounts_60 : cw_ho 242 60 (.iload_n 1) 1 0 0 0 := rfl
theorem oq_X12_layCounts_61 : cw_ho 242 61 (.iaload) 1 0 0 0 := rfl
theorem oq_X12_layCounts_62 : cw_ho 242 62 (.iconst 0) 1 0 0 0 := rfl
theorem oq_X12_layCounts_63 : cw_ho 242 63 (.bastore) 1 0 0 0 := rfl
theorem oq_X12_layCounts_64 : cw_ho 242 64 (.iinc 1 (-1)) 3 0 0 0 := rfl
theorem oq_X12_layCounts_67 : cw_ho 242 67 (.goto (-37)) 3 0 0 0 := rfl
theorem oq_X12_layCounts_70 : cw_ho 242 70 (.return_) 1 0 0 0 := rfl
theorem lc_30 {h0 : cv_H} {X : cv_X} {Q : cv_O → Prop} (hX : cw_Xok X) (hP0 : cw_PP G h0) (hfin : ∀ h, cw_T G h → cw_Fr cw_Ds cw_sh kk_X12_layCounts.2.2.2.2.2.1 h0 h → Q (none, h)) : ∀ (N : Nat) (i : Int32) (h : cv_H), cw_T G h → cw_Fr cw_Ds cw_sh kk_X12_layCounts.2.2.2.2.2.1 h0 h → ∀ L : cv_L, cv_get L 0 = some (cv_r 111) → cv_get L 1 = some (cv_i i) → -1 ≤ i.toInt → i.toInt ≤ 39 → (i.toInt + 1).toNat ≤ N → cw_X X 242 Q 30 L [] h := by
  intro N
  induction N with
  | zero =>
    intro i h Th Fh L q0 q1 i0 i1 hN
    have hp7 : ri_at h 136 i.toInt.toNat < 0 → ri_at h 137 i.toInt.toNat < 40 := by
      by_cases q : 0 ≤ i.toInt
      · exact (pp_fr0 (by decide +kernel) hP0 Fh).2.2.2.2.2.1 i.toInt.toNat (by omega)
      · intro _
        rename_i q2
        have e : i.toInt.toNat = 0 := by omega
        exact (pp_fr0 (by decide +kernel) hP0 Fh).2.2.2.2.2.1 i.toInt.toNat (by omega) (by assumption)
    refine ex_il oq_X12_layCounts_30 q1 ?_
    refine ex_if0 oq_X12_layCounts_31 (t := 70) rfl rfl (fun (c1 : i.toInt < 0) => ?_) (fun (c1 : ¬ (i.toInt < 0)) => ?_)
    · exact ex_retv oq_X12_layCounts_70 rfl (hfin h Th Fh)
    · refine ex_al oq_X12_layCounts_34 q0 ?_
      refine ex_gf oq_X12_layCounts_35 Th (k := 111) (d := 12) rfl rfl (fr_readGate Th) ?_
      refine ex_il oq_X12_layCounts_38 q1 ?_
      refine ex_ia1 oq_X12_layCounts_39 Th (k := 136) (d := 75) (j := i.toInt.toNat) rfl rfl (by omega) (by omega) (fun x2 hx2 lx2 ux2 => ?_)
      refine ex_if0 oq_X12_layCounts_40 (t := 64) rfl rfl (fun (c3 : 0 ≤ x2.toInt) => ?_) (fun (c3 : ¬ (0 ≤ x2.toInt)) => ?_)
      · refine ex_incA oq_X12_layCounts_64 (v := i) (m := (-1)) q1 (by decide) (by omega) (fun L5 x4 hx4 gL5_1 kL5 => ?_)
        have gL5_0 : cv_get L5 0 = some (cv_r 111) := kL5 0 _ (by decide) (fun _ => rfl) q0
        refine ex_go oq_X12_layCounts_67 (t := 30) rfl rfl ?_
        exfalso; omega -- x4 h Th Fh L5 gL5_0 gL5_1 (by omega) (by omega) (by omega)
      · refine ex_al oq_X12_layCounts_43 q0 ?_
        refine ex_gf oq_X12_layCounts_44 Th (k := 111) (d := 12) rfl rfl (fr_counts Th) ?_
        refine ex_il oq_X12_layCounts_47 q1 ?_
        refine ex_ba1 oq_X12_layCounts_48 Th (k := 141) (d := 80) (j := i.toInt.toNat) rfl rfl rfl (by omega) (by omega) (fun x6 hx6 lx6 ux6 => ?_)
        refine ex_if0 oq_X12_layCounts_49 (t := 64) rfl rfl (fun (c7 : x6.toInt = 0) => ?_) (fun (c7 : ¬ (x6.toInt = 0)) => ?_)
        · refine ex_incA oq_X12_layCounts_64 (v := i) (m := (-1)) q1 (by decide) (by omega) (fun L9 x8 hx8 gL9_1 kL9 => ?_)
          have gL9_0 : cv_get L9 0 = some (cv_r 111) := kL9 0 _ (by decide) (fun _ => rfl) q0
          refine ex_go oq_X12_layCounts_67 (t := 30) rfl rfl ?_
          exfalso; omega -- x8 h Th Fh L9 gL9_0 gL9_1 (by omega) (by omega) (by omega)
        · refine ex_al oq_X12_layCounts_52 q0 ?_
          refine ex_gf oq_X12_layCounts_53 Th (k := 111) (d := 12) rfl rfl (fr_counts Th) ?_
          refine ex_al oq_X12_layCounts_56 q0 ?_
          refine ex_gf oq_X12_layCounts_57 Th (k := 111) (d := 12) rfl rfl (fr_readWeek Th) ?_
          refine ex_il oq_X12_layCounts_60 q1 ?_
          refine ex_ia1 oq_X12_layCounts_61 Th (k := 137) (d := 76) (j := i.toInt.toNat) rfl rfl (by omega) (by omega) (fun x10 hx10 lx10 ux10 => ?_)
          refine ex_ic oq_X12_layCounts_62 (m := 0) (by decide) (fun x11 hx11 => ?_)
          refine ex_bw2 oq_X12_layCounts_63 Th (k := 141) (d := 80) (j := x10.toInt.toNat) rfl rfl (by omega) (by omega) ⟨by omega, by omega⟩ (fun h12 Th12 wh12 => ?_)
          have Fh12 : cw_Fr cw_Ds cw_sh kk_X12_layCounts.2.2.2.2.2.1 h0 h12 := cw_Fr_tr Fh (cw_Fr_wrr wh12 (k := 141) (d := 80) rfl rfl (by decide +kernel))
          refine ex_incA oq_X12_layCounts_64 (v := i) (m := (-1)) q1 (by decide) (by omega) (fun L14 x13 hx13 gL14_1 kL14 => ?_)
          have gL14_0 : cv_get L14 0 = some (cv_r 111) := kL14 0 _ (by decide) (fun _ => rfl) q0
          refine ex_go oq_X12_layCounts_67 (t := 30) rfl rfl ?_
          exfalso; omega -- x13 h12 Th12 Fh12 L14 gL14_0 gL14_1 (by omega) (by omega) (by omega)
  | succ N ih =>
    intro i h Th Fh L q0 q1 i0 i1 hN
    have hp7 : ri_at h 136 i.toInt.toNat < 0 → ri_at h 137 i.toInt.toNat < 40 := by
      by_cases q : 0 ≤ i.toInt
      · exact (pp_fr0 (by decide +kernel) hP0 Fh).2.2.2.2.2.1 i.toInt.toNat (by omega)
      · intro _
        rename_i q2
        have e : i.toInt.toNat = 0 := by omega
        exact (pp_fr0 (by decide +kernel) hP0 Fh).2.2.2.2.2.1 i.toInt.toNat (by omega) (by assumption)
    refine ex_il oq_X12_layCounts_30 q1 ?_
    refine ex_if0 oq_X12_layCounts_31 (t := 70) rfl rfl (fun (c1 : i.toInt < 0) => ?_) (fun (c1 : ¬ (i.toInt < 0)) => ?_)
    · exact ex_retv oq_X12_layCounts_70 rfl (hfin h Th Fh)
    · refine ex_al oq_X12_layCounts_34 q0 ?_
      refine ex_gf oq_X12_layCounts_35 Th (k := 111) (d := 12) rfl rfl (fr_readGate Th) ?_
      refine ex_il oq_X12_layCounts_38 q1 ?_
      refine ex_ia1 oq_X12_layCounts_39 Th (k := 136) (d := 75) (j := i.toInt.toNat) rfl rfl (by omega) (by omega) (fun x2 hx2 lx2 ux2 => ?_)
      refine ex_if0 oq_X12_layCounts_40 (t := 64) rfl rfl (fun (c3 : 0 ≤ x2.toInt) => ?_) (fun (c3 : ¬ (0 ≤ x2.toInt)) => ?_)
      · refine ex_incA oq_X12_layCounts_64 (v := i) (m := (-1)) q1 (by decide) (by omega) (fun L5 x4 hx4 gL5_1 kL5 => ?_)
        have gL5_0 : cv_get L5 0 = some (cv_r 111) := kL5 0 _ (by decide) (fun _ => rfl) q0
        refine ex_go oq_X12_layCounts_67 (t := 30) rfl rfl ?_
        exact ih x4 h Th Fh L5 gL5_0 gL5_1 (by omega) (by omega) (by omega)
      · refine ex_al oq_X12_layCounts_43 q0 ?_
        refine ex_gf oq_X12_layCounts_44 Th (k := 111) (d := 12) rfl rfl (fr_counts Th) ?_
        refine ex_il oq_X12_layCounts_47 q1 ?_
        refine ex_ba1 oq_X12_layCounts_48 Th (k := 141) (d := 80) (j := i.toInt.toNat) rfl rfl rfl (by omega) (by omega) (fun x6 hx6 lx6 ux6 => ?_)
        refine ex_if0 oq_X12_layCounts_49 (t := 64) rfl rfl (fun (c7 : x6.toInt = 0) => ?_) (fun (c7 : ¬ (x6.toInt = 0)) => ?_)
        · refine ex_incA oq_X12_layCounts_64 (v := i) (m := (-1)) q1 (by decide) (by omega) (fun L9 x8 hx8 gL9_1 kL9 => ?_)
          have gL9_0 : cv_get L9 0 = some (cv_r 111) := kL9 0 _ (by decide) (fun _ => rfl) q0
          refine ex_go oq_X12_layCounts_67 (t := 30) rfl rfl ?_
          exact ih x8 h Th Fh L9 gL9_0 gL9_1 (by omega) (by omega) (by omega)
        · refine ex_al oq_X12_layCounts_52 q0 ?_
          refine ex_gf oq_X12_layCounts_53 Th (k := 111) (d := 12) rfl rfl (fr_counts Th) ?_
          refine ex_al oq_X12_layCounts_56 q0 ?_
          refine ex_gf oq_X12_layCounts_57 Th (k := 111) (d := 12) rfl rfl (fr_readWeek Th) ?_
          refine ex_il oq_X12_layCounts_60 q1 ?_
          refine ex_ia1 oq_X12_layCounts_61 Th (k := 137) (d := 76) (j := i.toInt.toNat) rfl rfl (by omega) (by omega) (fun x10 hx10 lx10 ux10 => ?_)
          refine ex_ic oq_X12_layCounts_62 (m := 0) (by decide) (fun x11 hx11 => ?_)
          refine ex_bw2 oq_X12_layCounts_63 Th (k := 141) (d := 80) (j := x10.toInt.toNat) rfl rfl (by omega) (by omega) ⟨by omega, by omega⟩ (fun h12 Th12 wh12 => ?_)
          have Fh12 : cw_Fr cw_Ds cw_sh kk_X12_layCounts.2.2.2.2.2.1 h0 h12 := cw_Fr_tr Fh (cw_Fr_wrr wh12 (k := 141) (d := 80) rfl rfl (by decide +kernel))
          refine ex_incA oq_X12_layCounts_64 (v := i) (m := (-1)) q1 (by decide) (by omega) (fun L14 x13 hx13 gL14_1 kL14 => ?_)
          have gL14_0 : cv_get L14 0 = some (cv_r 111) := kL14 0 _ (by decide) (fun _ => rfl) q0
          refine ex_go oq_X12_layCounts_67 (t := 30) rfl rfl ?_
          exact ih x13 h12 Th12 Fh12 L14 gL14_0 gL14_1 (by omega) (by omega) (by omega)
theorem lc_2 {h0 : cv_H} {X : cv_X} {Q : cv_O → Prop} (hkm : cw_Holds fk_all mt_all cw_Ds cw_sh G (cw_PP G) kk_X12_knownMany) (hX : cw_Xok X) (hP0 : cw_PP G h0) (hfin : ∀ h, cw_T G h → cw_Fr cw_Ds cw_sh kk_X12_layCounts.2.2.2.2.2.1 h0 h → Q (none, h)) : ∀ (N : Nat) (i : Int32) (h : cv_H), cw_T G h → cw_Fr cw_Ds cw_sh kk_X12_layCounts.2.2.2.2.2.1 h0 h → ∀ L : cv_L, cv_get L 0 = some (cv_r 111) → cv_get L 1 = some (cv_i i) → 0 ≤ i.toInt → i.toInt ≤ 40 → (40 - i.toInt).toNat ≤ N → cw_X X 242 Q 2 L [] h := by
  intro N
  induction N with
  | zero =>
    intro i h Th Fh L q0 q1 i0 i1 hN
    refine ex_il oq_X12_layCounts_2 q1 ?_
    refine ex_al oq_X12_layCounts_3 q0 ?_
    have Ph : cw_PP G h := pp_fr0 (by decide +kernel) hP0 Fh
    refine ex_cv oq_X12_layCounts_4 (by decide) Th (k := 111) (d := 12) (as := []) (stk := [cv_i i]) rfl rfl rfl rfl rfl rfl ⟨rfl, rfl⟩ (cw_HX hkm rfl (cw_Xok_no2 hX) ⟨Th, Ph⟩ ⟨.inl ⟨by decide, 111, rfl, rfl⟩, trivial⟩ (fun t ht => absurd ht List.not_mem_nil)) (fun ox302 hox302 => ?_)
    obtain ⟨x302, h301, rfl, rx302, Th301, Ph301, Ch301, tx302⟩ := po_int hox302 rfl
    have lx302 := rx302.1
    have ux302 := rx302.2.1
    try dsimp only at lx302 ux302
    show cw_X _ _ _ _ _ [cv_i x302, cv_i i] h301
    have Fh301 : cw_Fr cw_Ds cw_sh kk_X12_layCounts.2.2.2.2.2.1 h0 h301 := cw_Fr_tr Fh (cw_Fr_mono (by decide +kernel) Ch301)
    refine ex_if oq_X12_layCounts_7 (t := 23) rfl rfl (fun (c303 : x302.toInt ≤ i.toInt) => ?_) (fun (c303 : ¬ (x302.toInt ≤ i.toInt)) => ?_)
    · refine ex_al oq_X12_layCounts_23 q0 ?_
      have Ph301 : cw_PP G h301 := pp_fr0 (by decide +kernel) hP0 Fh301
      refine ex_cv oq_X12_layCounts_24 (by decide) Th301 (k := 111) (d := 12) (as := []) (stk := []) rfl rfl rfl rfl rfl rfl ⟨rfl, rfl⟩ (cw_HX hkm rfl (cw_Xok_no2 hX) ⟨Th301, Ph301⟩ ⟨.inl ⟨by decide, 111, rfl, rfl⟩, trivial⟩ (fun t ht => absurd ht List.not_mem_nil)) (fun ox305 hox305 => ?_)
      obtain ⟨x305, h304, rfl, rx305, Th304, Ph304, Ch304, tx305⟩ := po_int hox305 rfl
      have lx305 := rx305.1
      have ux305 := rx305.2.1
      try dsimp only at lx305 ux305
      show cw_X _ _ _ _ _ [cv_i x305] h304
      have Fh304 : cw_Fr cw_Ds cw_sh kk_X12_layCounts.2.2.2.2.2.1 h0 h304 := cw_Fr_tr Fh301 (cw_Fr_mono (by decide +kernel) Ch304)
      refine ex_ic oq_X12_layCounts_27 (m := 1) (by decide) (fun x306 hx306 => ?_)
      refine ex_sub oq_X12_layCounts_28 (by omega) (fun x307 hx307 => ?_)
      refine ex_isA oq_X12_layCounts_29 (fun L308 gL308_1 kL308 => ?_)
      have gL308_0 : cv_get L308 0 = some (cv_r 111) := kL308 0 _ (by decide) (fun _ => rfl) q0
      exact lc_30 hX hP0 hfin _ x307 h304 Th304 Fh304 L308 gL308_0 gL308_1 (by omega) (by omega) (Nat.le_refl _)
    · refine ex_al oq_X12_layCounts_10 q0 ?_
      refine ex_gf oq_X12_layCounts_11 Th301 (k := 111) (d := 12) rfl rfl (fr_counts Th301) ?_
      refine ex_il oq_X12_layCounts_14 q1 ?_
      refine ex_ic oq_X12_layCounts_15 (m := 1) (by decide) (fun x309 hx309 => ?_)
      refine ex_bw2 oq_X12_layCounts_16 Th301 (k := 141) (d := 80) (j := i.toInt.toNat) rfl rfl (by omega) (by omega) ⟨by omega, by omega⟩ (fun h310 Th310 wh310 => ?_)
      have Fh310 : cw_Fr cw_Ds cw_sh kk_X12_layCounts.2.2.2.2.2.1 h0 h310 := cw_Fr_tr Fh301 (cw_Fr_wrr wh310 (k := 141) (d := 80) rfl rfl (by decide +kernel))
      refine ex_incA oq_X12_layCounts_17 (v := i) (m := 1) q1 (by decide) (by omega) (fun L312 x311 hx311 gL312_1 kL312 => ?_)
      have gL312_0 : cv_get L312 0 = some (cv_r 111) := kL312 0 _ (by decide) (fun _ => rfl) q0
      refine ex_go oq_X12_layCounts_20 (t := 2) rfl rfl ?_
      exfalso; omega -- x311 h310 Th310 Fh310 L312 gL312_0 gL312_1 (by omega) (by omega) (by omega)
  | succ N ih =>
    intro i h Th Fh L q0 q1 i0 i1 hN
    refine ex_il oq_X12_layCounts_2 q1 ?_
    refine ex_al oq_X12_layCounts_3 q0 ?_
    have Ph : cw_PP G h := pp_fr0 (by decide +kernel) hP0 Fh
    refine ex_cv oq_X12_layCounts_4 (by decide) Th (k := 111) (d := 12) (as := []) (stk := [cv_i i]) rfl rfl rfl rfl rfl rfl ⟨rfl, rfl⟩ (cw_HX hkm rfl (cw_Xok_no2 hX) ⟨Th, Ph⟩ ⟨.inl ⟨by decide, 111, rfl, rfl⟩, trivial⟩ (fun t ht => absurd ht List.not_mem_nil)) (fun ox302 hox302 => ?_)
    obtain ⟨x302, h301, rfl, rx302, Th301, Ph301, Ch301, tx302⟩ := po_int hox302 rfl
    have lx302 := rx302.1
    have ux302 := rx302.2.1
    try dsimp only at lx302 ux302
    show cw_X _ _ _ _ _ [cv_i x302, cv_i i] h301
    have Fh301 : cw_Fr cw_Ds cw_sh kk_X12_layCounts.2.2.2.2.2.1 h0 h301 := cw_Fr_tr Fh (cw_Fr_mono (by decide +kernel) Ch301)
    refine ex_if oq_X12_layCounts_7 (t := 23) rfl rfl (fun (c303 : x302.toInt ≤ i.toInt) => ?_) (fun (c303 : ¬ (x302.toInt ≤ i.toInt)) => ?_)
    · refine ex_al oq_X12_layCounts_23 q0 ?_
      have Ph301 : cw_PP G h301 := pp_fr0 (by decide +kernel) hP0 Fh301
      refine ex_cv oq_X12_layCounts_24 (by decide) Th301 (k := 111) (d := 12) (as := []) (stk := []) rfl rfl rfl rfl rfl rfl ⟨rfl, rfl⟩ (cw_HX hkm rfl (cw_Xok_no2 hX) ⟨Th301, Ph301⟩ ⟨.inl ⟨by decide, 111, rfl, rfl⟩, trivial⟩ (fun t ht => absurd ht List.not_mem_nil)) (fun ox305 hox305 => ?_)
      obtain ⟨x305, h304, rfl, rx305, Th304, Ph304, Ch304, tx305⟩ := po_int hox305 rfl
      have lx305 := rx305.1
      have ux305 := rx305.2.1
      try dsimp only at lx305 ux305
      show cw_X _ _ _ _ _ [cv_i x305] h304
      have Fh304 : cw_Fr cw_Ds cw_sh kk_X12_layCounts.2.2.2.2.2.1 h0 h304 := cw_Fr_tr Fh301 (cw_Fr_mono (by decide +kernel) Ch304)
      refine ex_ic oq_X12_layCounts_27 (m := 1) (by decide) (fun x306 hx306 => ?_)
      refine ex_sub oq_X12_layCounts_28 (by omega) (fun x307 hx307 => ?_)
      refine ex_isA oq_X12_layCounts_29 (fun L308 gL308_1 kL308 => ?_)
      have gL308_0 : cv_get L308 0 = some (cv_r 111) := kL308 0 _ (by decide) (fun _ => rfl) q0
      exact lc_30 hX hP0 hfin _ x307 h304 Th304 Fh304 L308 gL308_0 gL308_1 (by omega) (by omega) (Nat.le_refl _)
    · refine ex_al oq_X12_layCounts_10 q0 ?_
      refine ex_gf oq_X12_layCounts_11 Th301 (k := 111) (d := 12) rfl rfl (fr_counts Th301) ?_
      refine ex_il oq_X12_layCounts_14 q1 ?_
      refine ex_ic oq_X12_layCounts_15 (m := 1) (by decide) (fun x309 hx309 => ?_)
      refine ex_bw2 oq_X12_layCounts_16 Th301 (k := 141) (d := 80) (j := i.toInt.toNat) rfl rfl (by omega) (by omega) ⟨by omega, by omega⟩ (fun h310 Th310 wh310 => ?_)
      have Fh310 : cw_Fr cw_Ds cw_sh kk_X12_layCounts.2.2.2.2.2.1 h0 h310 := cw_Fr_tr Fh301 (cw_Fr_wrr wh310 (k := 141) (d := 80) rfl rfl (by decide +kernel))
      refine ex_incA oq_X12_layCounts_17 (v := i) (m := 1) q1 (by decide) (by omega) (fun L312 x311 hx311 gL312_1 kL312 => ?_)
      have gL312_0 : cv_get L312 0 = some (cv_r 111) := kL312 0 _ (by decide) (fun _ => rfl) q0
      refine ex_go oq_X12_layCounts_20 (t := 2) rfl rfl ?_
      exact ih x311 h310 Th310 Fh310 L312 gL312_0 gL312_1 (by omega) (by omega) (by omega)
theorem hk_X12_layCounts (hkm : cw_Holds fk_all mt_all cw_Ds cw_sh G (cw_PP G) kk_X12_knownMany) : cw_Holds fk_all mt_all cw_Ds cw_sh G (cw_PP G) kk_X12_layCounts := by
  refine cw_XH fun X h av hX hT hP hg hfp => ?_
  match av, hg with
  | [v0], ⟨h0, _⟩ =>
  obtain rfl : v0 = cv_r 111 := by
    rcases h0 with ⟨-, k, rfl, hk⟩ | ⟨j, hj, -⟩
    · rw [ri_uniq (d := 12) (k := 111) (by decide +kernel) k hk]
    · omega
  refine ex_ic oq_X12_layCounts_0 (m := 0) (by decide) (fun x601 hx601 => ?_)
  refine ex_isA oq_X12_layCounts_1 (fun L602 gL602_1 kL602 => ?_)
  have gL602_0 : cv_get L602 0 = some (cv_r 111) := kL602 0 _ (by decide) (fun _ => rfl) rfl
  exact lc_2 hkm hX hP (fun h a1 a2 => ⟨trivial, ⟨a1, pp_fr0 (by decide +kernel) hP a2⟩, a2, fun y hy _ => by cases hy⟩) _ x601 h hT cw_Fr_refl L602 gL602_0 gL602_1 (by omega) (by omega) (Nat.le_refl _)
theorem oq_X3_findStruck_0 : cw_ho 46 0 (.iconst 0) 1 0 0 0 := rfl
theorem oq_X3_findStruck_1 : cw_ho 46 1 (.istore_n 1) 1 0 0 0 := rfl
theorem oq_X3_findStruck_2 : cw_ho 46 2 (.iload_n 1) 1 0 0 0 := rfl
theorem oq_X3_findStruck_3 : cw_ho 46 3 (.bipush 40) 2 0 0 0 := rfl
theorem oq_X3_findStruck_5 : cw_ho 46 5 (.if_icmp .ge 16) 3 0 0 0 := rfl
theorem oq_X3_findStruck_8 : cw_ho 46 8 (.aload_n 0) 1 0 0 0 := rfl
theorem oq_X3_findStruck_9 : cw_ho 46 9 (.getfield 30) 3 3 6 4 := rfl
theorem oq_X3_findStruck_12 : cw_ho 46 12 (.iload_n 1) 1 0 0 0 := rfl
theorem oq_X3_findStruck_13 : cw_ho 46 13 (.iconst 0) 1 0 0 0 := rfl
theorem oq_X3_findStruck_14 : cw_ho 46 14 (.bastore) 1 0 0 0 := rfl
theorem oq_X3_findStruck_15 : cw_ho 46 15 (.iinc 1 1) 3 0 0 0 := rfl
theorem oq_X3_findStruck_18 : cw_ho 46 18 (.goto (-16)) 3 0 0 0 := rfl
theorem oq_X3_findStruck_21 : cw_ho 46 21 (.aload_n 0) 1 0 0 0 := rfl
theorem oq_X3_findStruck_22 : cw_ho 46 22 (.invokevirtual 50) 3 42 0 3 := rfl
theorem oq_X3_findStruck_25 : cw_ho 46 25 (.bipush 40) 2 0 0 0 := rfl
theorem oq_X3_findStruck_27 : cw_ho 46 27 (.invokestatic 60) 3 9002 2 0 := rfl
theorem oq_X3_findStruck_30 : cw_ho 46 30 (.iconst 1) 1 0 0 0 := rfl
theorem oq_X3_findStruck_31 : cw_ho 46 31 (.isub) 1 0 0 0 := rfl
theorem oq_X3_findStruck_32 : cw_ho 46 32 (.istore_n 1) 1 0 0 0 := rfl
theorem oq_X3_findStruck_33 : cw_ho 46 33 (.iload_n 1) 1 0 0 0 := rfl
theorem oq_X3_findStruck_34 : cw_ho 46 34 (.ifCond .lt 50) 3 0 0 0 := rfl
theorem oq_X3_findStruck_37 : cw_ho 46 37 (.aload_n 0) 1 0 0 0 := rfl
theorem oq_X3_findStruck_38 : cw_ho 46 38 (.getfield 30) 3 3 6 4 := rfl
theorem oq_X3_findStruck_41 : cw_ho 46 41 (.iload_n 1) 1 0 0 0 := rfl
theorem oq_X3_findStruck_42 : cw_ho 46 42 (.baload) 1 0 0 0 := rfl
theorem oq_X3_findStruck_43 : cw_ho 46 43 (.ifCond .ne 35) 3 0 0 0 := rfl
theorem oq_X3_findStruck_46 : cw_ho 46 46 (.aload_n 0) 1 0 0 0 := rfl
theorem oq_X3_findStruck_47 : cw_ho 46 47 (.getfield 27) 3 3 5 4 := rfl
theorem oq_X3_findStruck_50 : cw_ho 46 50 (.iload_n 1) 1 0 0 0 := rfl
theorem oq_X3_findStruck_51 : cw_ho 46 51 (.iaload) 1 0 0 0 := rfl
theorem oq_X3_findStruck_52 : cw_ho 46 52 (.ifCond .lt 26) 3 0 0 0 := rfl
theorem oq_X3_findStruck_55 : cw_ho 46 55 (.aload_n 0) 1 0 0 0 := rfl
theorem oq_X3_findStruck_56 : cw_ho 46 56 (.getfield 27) 3 3 5 4 := rfl
theorem oq_X3_findStruck_59 : cw_ho 46 59 (.iload_n 1) 1 0 0 0 := rfl
theorem oq_X3_findStruck_60 : cw_ho 46 60 (.iaload) 1 0 0 0 := rfl
theorem oq_X3_findStruck_61 : cw_ho 46 61 (.bipush 40) 2 0 0 0 := rfl
theorem oq_X3_findStruck_63 : cw_ho 46 63 (.if_icmp .ge 15) 3 0 0 0 := rfl
theorem oq_X3_findStruck_66 : cw_ho 46 66 (.aload_n 0) 1 0 0 0 := rfl
theorem oq_X3_findStruck_67 : cw_ho 46 67 (.getfield 30) 3 3 6 4 := rfl
theorem oq_X3_findStruck_70 : cw_ho 46 70 (.aload_n 0) 1 0 0 0 := rfl
theorem oq_X3_findStruck_71 : cw_ho 46 71 (.getfield 27) 3 3 5 4 := rfl
theorem oq_X3_findStruck_74 : cw_ho 46 74 (.iload_n 1) 1 0 0 0 := rfl
theorem oq_X3_findStruck_75 : cw_ho 46 75 (.iaload) 1 0 0 0 := rfl
theorem oq_X3_findStruck_76 : cw_ho 46 76 (.iconst 1) 1 0 0 0 := rfl
theorem oq_X3_findStruck_77 : cw_ho 46 77 (.bastore) 1 0 0 0 := rfl
theorem oq_X3_findStruck_78 : cw_ho 46 78 (.iinc 1 (-1)) 3 0 0 0 := rfl
theorem oq_X3_findStruck_81 : cw_ho 46 81 (.goto (-48)) 3 0 0 0 := rfl
theorem oq_X3_findStruck_84 : cw_ho 46 84 (.return_) 1 0 0 0 := rfl
theorem fs_33 {h0 : cv_H} {X : cv_X} {Q : cv_O → Prop} (hfin : ∀ h, cw_T G h → cw_Fr cw_Ds cw_sh kk_X3_findStruck.2.2.2.2.2.1 h0 h → Q (none, h)) : ∀ (N : Nat) (i : Int32) (h : cv_H), cw_T G h → cw_Fr cw_Ds cw_sh kk_X3_findStruck.2.2.2.2.2.1 h0 h → ∀ L : cv_L, cv_get L 0 = some (cv_r 86) → cv_get L 1 = some (cv_i i) → -1 ≤ i.toInt → i.toInt ≤ 39 → (i.toInt + 1).toNat ≤ N → cw_X X 46 Q 33 L [] h := by
  intro N
  induction N with
  | zero =>
    intro i h Th Fh L q0 q1 i0 i1 hN
    refine ex_il oq_X3_findStruck_33 q1 ?_
    refine ex_if0 oq_X3_findStruck_34 (t := 84) rfl rfl (fun (c1 : i.toInt < 0) => ?_) (fun (c1 : ¬ (i.toInt < 0)) => ?_)
    · exact ex_retv oq_X3_findStruck_84 rfl (hfin h Th Fh)
    · refine ex_al oq_X3_findStruck_37 q0 ?_
      refine ex_gf oq_X3_findStruck_38 Th (k := 86) (d := 3) rfl rfl (ri_ref (k := 86) (k' := 93) (d := 3) (f := 6) Th rfl rfl rfl (by decide) (ri_uniq (by decide +kernel))) ?_
      refine ex_il oq_X3_findStruck_41 q1 ?_
      refine ex_ba1 oq_X3_findStruck_42 Th (k := 93) (d := 26) (j := i.toInt.toNat) rfl rfl rfl (by omega) (by omega) (fun x2 hx2 lx2 ux2 => ?_)
      refine ex_if0 oq_X3_findStruck_43 (t := 78) rfl rfl (fun (c3 : ¬ x2.toInt = 0) => ?_) (fun (c3 : ¬ (¬ x2.toInt = 0)) => ?_)
      · refine ex_incA oq_X3_findStruck_78 (v := i) (m := (-1)) q1 (by decide) (by omega) (fun L5 x4 hx4 gL5_1 kL5 => ?_)
        have gL5_0 : cv_get L5 0 = some (cv_r 86) := kL5 0 _ (by decide) (fun _ => rfl) q0
        refine ex_go oq_X3_findStruck_81 (t := 33) rfl rfl ?_
        exfalso; omega -- x4 h Th Fh L5 gL5_0 gL5_1 (by omega) (by omega) (by omega)
      · refine ex_al oq_X3_findStruck_46 q0 ?_
        refine ex_gf oq_X3_findStruck_47 Th (k := 86) (d := 3) rfl rfl (ri_ref (k := 86) (k' := 92) (d := 3) (f := 5) Th rfl rfl rfl (by decide) (ri_uniq (by decide +kernel))) ?_
        refine ex_il oq_X3_findStruck_50 q1 ?_
        refine ex_ia1 oq_X3_findStruck_51 Th (k := 92) (d := 25) (j := i.toInt.toNat) rfl rfl (by omega) (by omega) (fun x6 hx6 lx6 ux6 => ?_)
        refine ex_if0 oq_X3_findStruck_52 (t := 78) rfl rfl (fun (c7 : x6.toInt < 0) => ?_) (fun (c7 : ¬ (x6.toInt < 0)) => ?_)
        · refine ex_incA oq_X3_findStruck_78 (v := i) (m := (-1)) q1 (by decide) (by omega) (fun L9 x8 hx8 gL9_1 kL9 => ?_)
          have gL9_0 : cv_get L9 0 = some (cv_r 86) := kL9 0 _ (by decide) (fun _ => rfl) q0
          refine ex_go oq_X3_findStruck_81 (t := 33) rfl rfl ?_
          exfalso; omega -- x8 h Th Fh L9 gL9_0 gL9_1 (by omega) (by omega) (by omega)
        · refine ex_al oq_X3_findStruck_55 q0 ?_
          refine ex_gf oq_X3_findStruck_56 Th (k := 86) (d := 3) rfl rfl (ri_ref (k := 86) (k' := 92) (d := 3) (f := 5) Th rfl rfl rfl (by decide) (ri_uniq (by decide +kernel))) ?_
          refine ex_il oq_X3_findStruck_59 q1 ?_
          refine ex_ia1 oq_X3_findStruck_60 Th (k := 92) (d := 25) (j := i.toInt.toNat) rfl rfl (by omega) (by omega) (fun x10 hx10 lx10 ux10 => ?_)
          refine ex_bi oq_X3_findStruck_61 (m := 40) (by decide) (fun x11 hx11 => ?_)
          refine ex_if oq_X3_findStruck_63 (t := 78) rfl rfl (fun (c12 : x11.toInt ≤ x10.toInt) => ?_) (fun (c12 : ¬ (x11.toInt ≤ x10.toInt)) => ?_)
          · refine ex_incA oq_X3_findStruck_78 (v := i) (m := (-1)) q1 (by decide) (by omega) (fun L14 x13 hx13 gL14_1 kL14 => ?_)
            have gL14_0 : cv_get L14 0 = some (cv_r 86) := kL14 0 _ (by decide) (fun _ => rfl) q0
            refine ex_go oq_X3_findStruck_81 (t := 33) rfl rfl ?_
            exfalso; omega -- x13 h Th Fh L14 gL14_0 gL14_1 (by omega) (by omega) (by omega)
          · refine ex_al oq_X3_findStruck_66 q0 ?_
            refine ex_gf oq_X3_findStruck_67 Th (k := 86) (d := 3) rfl rfl (ri_ref (k := 86) (k' := 93) (d := 3) (f := 6) Th rfl rfl rfl (by decide) (ri_uniq (by decide +kernel))) ?_
            refine ex_al oq_X3_findStruck_70 q0 ?_
            refine ex_gf oq_X3_findStruck_71 Th (k := 86) (d := 3) rfl rfl (ri_ref (k := 86) (k' := 92) (d := 3) (f := 5) Th rfl rfl rfl (by decide) (ri_uniq (by decide +kernel))) ?_
            refine ex_il oq_X3_findStruck_74 q1 ?_
            refine ex_ia1 oq_X3_findStruck_75 Th (k := 92) (d := 25) (j := i.toInt.toNat) rfl rfl (by omega) (by omega) (fun x15 hx15 lx15 ux15 => ?_)
            refine ex_ic oq_X3_findStruck_76 (m := 1) (by decide) (fun x16 hx16 => ?_)
            refine ex_bw2 oq_X3_findStruck_77 Th (k := 93) (d := 26) (j := x15.toInt.toNat) rfl rfl (by omega) (by omega) ⟨by omega, by omega⟩ (fun h17 Th17 wh17 => ?_)
            have Fh17 : cw_Fr cw_Ds cw_sh kk_X3_findStruck.2.2.2.2.2.1 h0 h17 := cw_Fr_tr Fh (cw_Fr_wrr wh17 (k := 93) (d := 26) rfl rfl (by decide +kernel))
            refine ex_incA oq_X3_findStruck_78 (v := i) (m := (-1)) q1 (by decide) (by omega) (fun L19 x18 hx18 gL19_1 kL19 => ?_)
            have gL19_0 : cv_get L19 0 = some (cv_r 86) := kL19 0 _ (by decide) (fun _ => rfl) q0
            refine ex_go oq_X3_findStruck_81 (t := 33) rfl rfl ?_
            exfalso; omega -- x18 h17 Th17 Fh17 L19 gL19_0 gL19_1 (by omega) (by omega) (by omega)
  | succ N ih =>
    intro i h Th Fh L q0 q1 i0 i1 hN
    refine ex_il oq_X3_findStruck_33 q1 ?_
    refine ex_if0 oq_X3_findStruck_34 (t := 84) rfl rfl (fun (c1 : i.toInt < 0) => ?_) (fun (c1 : ¬ (i.toInt < 0)) => ?_)
    · exact ex_retv oq_X3_findStruck_84 rfl (hfin h Th Fh)
    · refine ex_al oq_X3_findStruck_37 q0 ?_
      refine ex_gf oq_X3_findStruck_38 Th (k := 86) (d := 3) rfl rfl (ri_ref (k := 86) (k' := 93) (d := 3) (f := 6) Th rfl rfl rfl (by decide) (ri_uniq (by decide +kernel))) ?_
      refine ex_il oq_X3_findStruck_41 q1 ?_
      refine ex_ba1 oq_X3_findStruck_42 Th (k := 93) (d := 26) (j := i.toInt.toNat) rfl rfl rfl (by omega) (by omega) (fun x2 hx2 lx2 ux2 => ?_)
      refine ex_if0 oq_X3_findStruck_43 (t := 78) rfl rfl (fun (c3 : ¬ x2.toInt = 0) => ?_) (fun (c3 : ¬ (¬ x2.toInt = 0)) => ?_)
      · refine ex_incA oq_X3_findStruck_78 (v := i) (m := (-1)) q1 (by decide) (by omega) (fun L5 x4 hx4 gL5_1 kL5 => ?_)
        have gL5_0 : cv_get L5 0 = some (cv_r 86) := kL5 0 _ (by decide) (fun _ => rfl) q0
        refine ex_go oq_X3_findStruck_81 (t := 33) rfl rfl ?_
        exact ih x4 h Th Fh L5 gL5_0 gL5_1 (by omega) (by omega) (by omega)
      · refine ex_al oq_X3_findStruck_46 q0 ?_
        refine ex_gf oq_X3_findStruck_47 Th (k := 86) (d := 3) rfl rfl (ri_ref (k := 86) (k' := 92) (d := 3) (f := 5) Th rfl rfl rfl (by decide) (ri_uniq (by decide +kernel))) ?_
        refine ex_il oq_X3_findStruck_50 q1 ?_
        refine ex_ia1 oq_X3_findStruck_51 Th (k := 92) (d := 25) (j := i.toInt.toNat) rfl rfl (by omega) (by omega) (fun x6 hx6 lx6 ux6 => ?_)
        refine ex_if0 oq_X3_findStruck_52 (t := 78) rfl rfl (fun (c7 : x6.toInt < 0) => ?_) (fun (c7 : ¬ (x6.toInt < 0)) => ?_)
        · refine ex_incA oq_X3_findStruck_78 (v := i) (m := (-1)) q1 (by decide) (by omega) (fun L9 x8 hx8 gL9_1 kL9 => ?_)
          have gL9_0 : cv_get L9 0 = some (cv_r 86) := kL9 0 _ (by decide) (fun _ => rfl) q0
          refine ex_go oq_X3_findStruck_81 (t := 33) rfl rfl ?_
          exact ih x8 h Th Fh L9 gL9_0 gL9_1 (by omega) (by omega) (by omega)
        · refine ex_al oq_X3_findStruck_55 q0 ?_
          refine ex_gf oq_X3_findStruck_56 Th (k := 86) (d := 3) rfl rfl (ri_ref (k := 86) (k' := 92) (d := 3) (f := 5) Th rfl rfl rfl (by decide) (ri_uniq (by decide +kernel))) ?_
          refine ex_il oq_X3_findStruck_59 q1 ?_
          refine ex_ia1 oq_X3_findStruck_60 Th (k := 92) (d := 25) (j := i.toInt.toNat) rfl rfl (by omega) (by omega) (fun x10 hx10 lx10 ux10 => ?_)
          refine ex_bi oq_X3_findStruck_61 (m := 40) (by decide) (fun x11 hx11 => ?_)
          refine ex_if oq_X3_findStruck_63 (t := 78) rfl rfl (fun (c12 : x11.toInt ≤ x10.toInt) => ?_) (fun (c12 : ¬ (x11.toInt ≤ x10.toInt)) => ?_)
          · refine ex_incA oq_X3_findStruck_78 (v := i) (m := (-1)) q1 (by decide) (by omega) (fun L14 x13 hx13 gL14_1 kL14 => ?_)
            have gL14_0 : cv_get L14 0 = some (cv_r 86) := kL14 0 _ (by decide) (fun _ => rfl) q0
            refine ex_go oq_X3_findStruck_81 (t := 33) rfl rfl ?_
            exact ih x13 h Th Fh L14 gL14_0 gL14_1 (by omega) (by omega) (by omega)
          · refine ex_al oq_X3_findStruck_66 q0 ?_
            refine ex_gf oq_X3_findStruck_67 Th (k := 86) (d := 3) rfl rfl (ri_ref (k := 86) (k' := 93) (d := 3) (f := 6) Th rfl rfl rfl (by decide) (ri_uniq (by decide +kernel))) ?_
            refine ex_al oq_X3_findStruck_70 q0 ?_
            refine ex_gf oq_X3_findStruck_71 Th (k := 86) (d := 3) rfl rfl (ri_ref (k := 86) (k' := 92) (d := 3) (f := 5) Th rfl rfl rfl (by decide) (ri_uniq (by decide +kernel))) ?_
            refine ex_il oq_X3_findStruck_74 q1 ?_
            refine ex_ia1 oq_X3_findStruck_75 Th (k := 92) (d := 25) (j := i.toInt.toNat) rfl rfl (by omega) (by omega) (fun x15 hx15 lx15 ux15 => ?_)
            refine ex_ic oq_X3_findStruck_76 (m := 1) (by decide) (fun x16 hx16 => ?_)
            refine ex_bw2 oq_X3_findStruck_77 Th (k := 93) (d := 26) (j := x15.toInt.toNat) rfl rfl (by omega) (by omega) ⟨by omega, by omega⟩ (fun h17 Th17 wh17 => ?_)
            have Fh17 : cw_Fr cw_Ds cw_sh kk_X3_findStruck.2.2.2.2.2.1 h0 h17 := cw_Fr_tr Fh (cw_Fr_wrr wh17 (k := 93) (d := 26) rfl rfl (by decide +kernel))
            refine ex_incA oq_X3_findStruck_78 (v := i) (m := (-1)) q1 (by decide) (by omega) (fun L19 x18 hx18 gL19_1 kL19 => ?_)
            have gL19_0 : cv_get L19 0 = some (cv_r 86) := kL19 0 _ (by decide) (fun _ => rfl) q0
            refine ex_go oq_X3_findStruck_81 (t := 33) rfl rfl ?_
            exact ih x18 h17 Th17 Fh17 L19 gL19_0 gL19_1 (by omega) (by omega) (by omega)
theorem fs_2 {h0 : cv_H} {X : cv_X} {Q : cv_O → Prop} (hkc : cw_Holds fk_all mt_all cw_Ds cw_sh G (cw_PP G) kk_X3_knownCount) (hX : cw_Xok X) (hP0 : cw_PP G h0) (hfin : ∀ h, cw_T G h → cw_Fr cw_Ds cw_sh kk_X3_findStruck.2.2.2.2.2.1 h0 h → Q (none, h)) : ∀ (N : Nat) (i : Int32) (h : cv_H), cw_T G h → cw_Fr cw_Ds cw_sh kk_X3_findStruck.2.2.2.2.2.1 h0 h → ∀ L : cv_L, cv_get L 0 = some (cv_r 86) → cv_get L 1 = some (cv_i i) → 0 ≤ i.toInt → i.toInt ≤ 40 → (40 - i.toInt).toNat ≤ N → cw_X X 46 Q 2 L [] h := by
  intro N
  induction N with
  | zero =>
    intro i h Th Fh L q0 q1 i0 i1 hN
    refine ex_il oq_X3_findStruck_2 q1 ?_
    refine ex_bi oq_X3_findStruck_3 (m := 40) (by decide) (fun x301 hx301 => ?_)
    refine ex_if oq_X3_findStruck_5 (t := 21) rfl rfl (fun (c302 : x301.toInt ≤ i.toInt) => ?_) (fun (c302 : ¬ (x301.toInt ≤ i.toInt)) => ?_)
    · refine ex_al oq_X3_findStruck_21 q0 ?_
      have Ph : cw_PP G h := pp_fr0 (by decide +kernel) hP0 Fh
      refine ex_cv oq_X3_findStruck_22 (by decide) Th (k := 86) (d := 3) (as := []) (stk := []) rfl rfl rfl rfl rfl rfl ⟨rfl, rfl⟩ (cw_HX hkc rfl (cw_Xok_no2 hX) ⟨Th, Ph⟩ ⟨.inl ⟨by decide, 86, rfl, rfl⟩, trivial⟩ (fun t ht => absurd ht List.not_mem_nil)) (fun ox304 hox304 => ?_)
      obtain ⟨x304, h303, rfl, rx304, Th303, Ph303, Ch303, tx304⟩ := po_int hox304 rfl
      have lx304 := rx304.1
      have ux304 := rx304.2.1
      try dsimp only at lx304 ux304
      show cw_X _ _ _ _ _ [cv_i x304] h303
      have Fh303 : cw_Fr cw_Ds cw_sh kk_X3_findStruck.2.2.2.2.2.1 h0 h303 := cw_Fr_tr Fh (cw_Fr_mono (by decide +kernel) Ch303)
      refine ex_bi oq_X3_findStruck_25 (m := 40) (by decide) (fun x305 hx305 => ?_)
      refine ex_min oq_X3_findStruck_27 (by decide) (by decide) (fun x306 hx306 => ?_)
      refine ex_ic oq_X3_findStruck_30 (m := 1) (by decide) (fun x307 hx307 => ?_)
      refine ex_sub oq_X3_findStruck_31 (by omega) (fun x308 hx308 => ?_)
      refine ex_isA oq_X3_findStruck_32 (fun L309 gL309_1 kL309 => ?_)
      have gL309_0 : cv_get L309 0 = some (cv_r 86) := kL309 0 _ (by decide) (fun _ => rfl) q0
      exact fs_33 hfin _ x308 h303 Th303 Fh303 L309 gL309_0 gL309_1 (by omega) (by omega) (Nat.le_refl _)
    · refine ex_al oq_X3_findStruck_8 q0 ?_
      refine ex_gf oq_X3_findStruck_9 Th (k := 86) (d := 3) rfl rfl (ri_ref (k := 86) (k' := 93) (d := 3) (f := 6) Th rfl rfl rfl (by decide) (ri_uniq (by decide +kernel))) ?_
      refine ex_il oq_X3_findStruck_12 q1 ?_
      refine ex_ic oq_X3_findStruck_13 (m := 0) (by decide) (fun x310 hx310 => ?_)
      refine ex_bw2 oq_X3_findStruck_14 Th (k := 93) (d := 26) (j := i.toInt.toNat) rfl rfl (by omega) (by omega) ⟨by omega, by omega⟩ (fun h311 Th311 wh311 => ?_)
      have Fh311 : cw_Fr cw_Ds cw_sh kk_X3_findStruck.2.2.2.2.2.1 h0 h311 := cw_Fr_tr Fh (cw_Fr_wrr wh311 (k := 93) (d := 26) rfl rfl (by decide +kernel))
      refine ex_incA oq_X3_findStruck_15 (v := i) (m := 1) q1 (by decide) (by omega) (fun L313 x312 hx312 gL313_1 kL313 => ?_)
      have gL313_0 : cv_get L313 0 = some (cv_r 86) := kL313 0 _ (by decide) (fun _ => rfl) q0
      refine ex_go oq_X3_findStruck_18 (t := 2) rfl rfl ?_
      exfalso; omega -- x312 h311 Th311 Fh311 L313 gL313_0 gL313_1 (by omega) (by omega) (by omega)
  | succ N ih =>
    intro i h Th Fh L q0 q1 i0 i1 hN
    refine ex_il oq_X3_findStruck_2 q1 ?_
    refine ex_bi oq_X3_findStruck_3 (m := 40) (by decide) (fun x301 hx301 => ?_)
    refine ex_if oq_X3_findStruck_5 (t := 21) rfl rfl (fun (c302 : x301.toInt ≤ i.toInt) => ?_) (fun (c302 : ¬ (x301.toInt ≤ i.toInt)) => ?_)
    · refine ex_al oq_X3_findStruck_21 q0 ?_
      have Ph : cw_PP G h := pp_fr0 (by decide +kernel) hP0 Fh
      refine ex_cv oq_X3_findStruck_22 (by decide) Th (k := 86) (d := 3) (as := []) (stk := []) rfl rfl rfl rfl rfl rfl ⟨rfl, rfl⟩ (cw_HX hkc rfl (cw_Xok_no2 hX) ⟨Th, Ph⟩ ⟨.inl ⟨by decide, 86, rfl, rfl⟩, trivial⟩ (fun t ht => absurd ht List.not_mem_nil)) (fun ox304 hox304 => ?_)
      obtain ⟨x304, h303, rfl, rx304, Th303, Ph303, Ch303, tx304⟩ := po_int hox304 rfl
      have lx304 := rx304.1
      have ux304 := rx304.2.1
      try dsimp only at lx304 ux304
      show cw_X _ _ _ _ _ [cv_i x304] h303
      have Fh303 : cw_Fr cw_Ds cw_sh kk_X3_findStruck.2.2.2.2.2.1 h0 h303 := cw_Fr_tr Fh (cw_Fr_mono (by decide +kernel) Ch303)
      refine ex_bi oq_X3_findStruck_25 (m := 40) (by decide) (fun x305 hx305 => ?_)
      refine ex_min oq_X3_findStruck_27 (by decide) (by decide) (fun x306 hx306 => ?_)
      refine ex_ic oq_X3_findStruck_30 (m := 1) (by decide) (fun x307 hx307 => ?_)
      refine ex_sub oq_X3_findStruck_31 (by omega) (fun x308 hx308 => ?_)
      refine ex_isA oq_X3_findStruck_32 (fun L309 gL309_1 kL309 => ?_)
      have gL309_0 : cv_get L309 0 = some (cv_r 86) := kL309 0 _ (by decide) (fun _ => rfl) q0
      exact fs_33 hfin _ x308 h303 Th303 Fh303 L309 gL309_0 gL309_1 (by omega) (by omega) (Nat.le_refl _)
    · refine ex_al oq_X3_findStruck_8 q0 ?_
      refine ex_gf oq_X3_findStruck_9 Th (k := 86) (d := 3) rfl rfl (ri_ref (k := 86) (k' := 93) (d := 3) (f := 6) Th rfl rfl rfl (by decide) (ri_uniq (by decide +kernel))) ?_
      refine ex_il oq_X3_findStruck_12 q1 ?_
      refine ex_ic oq_X3_findStruck_13 (m := 0) (by decide) (fun x310 hx310 => ?_)
      refine ex_bw2 oq_X3_findStruck_14 Th (k := 93) (d := 26) (j := i.toInt.toNat) rfl rfl (by omega) (by omega) ⟨by omega, by omega⟩ (fun h311 Th311 wh311 => ?_)
      have Fh311 : cw_Fr cw_Ds cw_sh kk_X3_findStruck.2.2.2.2.2.1 h0 h311 := cw_Fr_tr Fh (cw_Fr_wrr wh311 (k := 93) (d := 26) rfl rfl (by decide +kernel))
      refine ex_incA oq_X3_findStruck_15 (v := i) (m := 1) q1 (by decide) (by omega) (fun L313 x312 hx312 gL313_1 kL313 => ?_)
      have gL313_0 : cv_get L313 0 = some (cv_r 86) := kL313 0 _ (by decide) (fun _ => rfl) q0
      refine ex_go oq_X3_findStruck_18 (t := 2) rfl rfl ?_
      exact ih x312 h311 Th311 Fh311 L313 gL313_0 gL313_1 (by omega) (by omega) (by omega)
theorem hk_X3_findStruck (hkc : cw_Holds fk_all mt_all cw_Ds cw_sh G (cw_PP G) kk_X3_knownCount) : cw_Holds fk_all mt_all cw_Ds cw_sh G (cw_PP G) kk_X3_findStruck := by
  refine cw_XH fun X h av hX hT hP hg hfp => ?_
  match av, hg with
  | [v0], ⟨h0, _⟩ =>
  obtain rfl : v0 = cv_r 86 := by
    rcases h0 with ⟨-, k, rfl, hk⟩ | ⟨j, hj, -⟩
    · rw [ri_uniq (d := 3) (k := 86) (by decide +kernel) k hk]
    · omega
  refine ex_ic oq_X3_findStruck_0 (m := 0) (by decide) (fun x601 hx601 => ?_)
  refine ex_isA oq_X3_findStruck_1 (fun L602 gL602_1 kL602 => ?_)
  have gL602_0 : cv_get L602 0 = some (cv_r 86) := kL602 0 _ (by decide) (fun _ => rfl) rfl
  exact fs_2 hkc hX hP (fun h a1 a2 => ⟨trivial, ⟨a1, pp_fr0 (by decide +kernel) hP a2⟩, a2, fun y hy _ => by cases hy⟩) _ x601 h hT cw_Fr_refl L602 gL602_0 gL602_1 (by omega) (by omega) (Nat.le_refl _)
theorem oq_X3_pick_0 : cw_ho 45 0 (.aload_n 0) 1 0 0 0 := rfl
theorem oq_X3_pick_1 : cw_ho 45 1 (.invokevirtual 44) 3 46 0 3 := rfl
theorem oq_X3_pick_4 : cw_ho 45 4 (.aload_n 0) 1 0 0 0 := rfl
theorem oq_X3_pick_5 : cw_ho 45 5 (.iconst 0) 1 0 0 0 := rfl
theorem oq_X3_pick_6 : cw_ho 45 6 (.putfield 47) 3 3 8 0 := rfl
theorem oq_X3_pick_9 : cw_ho 45 9 (.iconst (-1)) 1 0 0 0 := rfl
theorem oq_X3_pick_10 : cw_ho 45 10 (.istore_n 2) 1 0 0 0 := rfl
theorem oq_X3_pick_11 : cw_ho 45 11 (.iconst 0) 1 0 0 0 := rfl
theorem oq_X3_pick_12 : cw_ho 45 12 (.istore_n 3) 1 0 0 0 := rfl
theorem oq_X3_pick_13 : cw_ho 45 13 (.iload_n 3) 1 0 0 0 := rfl
theorem oq_X3_pick_14 : cw_ho 45 14 (.aload_n 0) 1 0 0 0 := rfl
theorem oq_X3_pick_15 : cw_ho 45 15 (.invokevirtual 50) 3 42 0 3 := rfl
theorem oq_X3_pick_18 : cw_ho 45 18 (.if_icmp .ge 75) 3 0 0 0 := rfl
theorem oq_X3_pick_21 : cw_ho 45 21 (.iload_n 3) 1 0 0 0 := rfl
theorem oq_X3_pick_22 : cw_ho 45 22 (.bipush 40) 2 0 0 0 := rfl
theorem oq_X3_pick_24 : cw_ho 45 24 (.if_icmp .ge 69) 3 0 0 0 := rfl
theorem oq_X3_pick_27 : cw_ho 45 27 (.aload_n 0) 1 0 0 0 := rfl
theorem oq_X3_pick_28 : cw_ho 45 28 (.getfield 30) 3 3 6 4 := rfl
theorem oq_X3_pick_31 : cw_ho 45 31 (.iload_n 3) 1 0 0 0 := rfl
theorem oq_X3_pick_32 : cw_ho 45 32 (.baload) 1 0 0 0 := rfl
theorem oq_X3_pick_33 : cw_ho 45 33 (.ifCond .ne 54) 3 0 0 0 := rfl
theorem oq_X3_pick_36 : cw_ho 45 36 (.aload_n 0) 1 0 0 0 := rfl
theorem oq_X3_pick_37 : cw_ho 45 37 (.getfield 27) 3 3 5 4 := rfl
theorem oq_X3_pick_40 : cw_ho 45 40 (.iload_n 3) 1 0 0 0 := rfl
theorem oq_X3_pick_41 : cw_ho 45 41 (.iaload) 1 0 0 0 := rfl
theorem oq_X3_pick_42 : cw_ho 45 42 (.iconst (-1)) 1 0 0 0 := rfl
theorem oq_X3_pick_43 : cw_ho 45 43 (.if_icmp .ne 44) 3 0 0 0 := rfl
theorem oq_X3_pick_46 : cw_ho 45 46 (.aload_n 0) 1 0 0 0 := rfl
theorem oq_X3_pick_47 : cw_ho 45 47 (.getfield 9) 3 3 0 4 := rfl
theorem oq_X3_pick_50 : cw_ho 45 50 (.iload_n 3) 1 0 0 0 := rfl
theorem oq_X3_pick_51 : cw_ho 45 51 (.iaload) 1 0 0 0 := rfl
theorem oq_X3_pick_52 : cw_ho 45 52 (.iload_n 1) 1 0 0 0 := rfl
theorem oq_X3_pick_53 : cw_ho 45 53 (.if_icmp .ne 34) 3 0 0 0 := rfl
theorem oq_X3_pick_56 : cw_ho 45 56 (.aload_n 0) 1 0 0 0 := rfl
theorem oq_X3_pick_57 : cw_ho 45 57 (.getfield 34) 3 3 7 4 := rfl
theorem oq_X3_pick_60 : cw_ho 45 60 (.aload_n 0) 1 0 0 0 := rfl
theorem oq_X3_pick_61 : cw_ho 45 61 (.getfield 47) 3 3 8 0 := rfl
theorem oq_X3_pick_64 : cw_ho 45 64 (.iload_n 3) 1 0 0 0 := rfl
theorem oq_X3_pick_65 : cw_ho 45 65 (.iastore) 1 0 0 0 := rfl
theorem oq_X3_pick_66 : cw_ho 45 66 (.aload_n 0) 1 0 0 0 := rfl
theorem oq_X3_pick_67 : cw_ho 45 67 (.dup) 1 0 0 0 := rfl
theorem oq_X3_pick_68 : cw_ho 45 68 (.getfield 47) 3 3 8 0 := rfl
theorem oq_X3_pick_71 : cw_ho 45 71 (.iconst 1) 1 0 0 0 := rfl
theorem oq_X3_pick_72 : cw_ho 45 72 (.iadd) 1 0 0 0 := rfl
theorem oq_X3_pick_73 : cw_ho 45 73 (.putfield 47) 3 3 8 0 := rfl
theorem oq_X3_pick_76 : cw_ho 45 76 (.iload_n 2) 1 0 0 0 := rfl
theorem oq_X3_pick_77 : cw_ho 45 77 (.aload_n 0) 1 0 0 0 := rfl
theorem oq_X3_pick_78 : cw_ho 45 78 (.getfield 15) 3 3 1 4 := rfl
theorem oq_X3_pick_81 : cw_ho 45 81 (.iload_n 3) 1 0 0 0 := rfl
theorem oq_X3_pick_82 : cw_ho 45 82 (.iaload) 1 0 0 0 := rfl
theorem oq_X3_pick_83 : cw_ho 45 83 (.invokestatic 54) 3 9001 2 0 := rfl
theorem oq_X3_pick_86 : cw_ho 45 86 (.istore_n 2) 1 0 0 0 := rfl
theorem oq_X3_pick_87 : cw_ho 45 87 (.iinc 3 1) 3 0 0 0 := rfl
theorem oq_X3_pick_90 : cw_ho 45 90 (.goto (-77)) 3 0 0 0 := rfl
theorem oq_X3_pick_93 : cw_ho 45 93 (.iload_n 2) 1 0 0 0 := rfl
theorem oq_X3_pick_94 : cw_ho 45 94 (.ireturn) 1 0 0 0 := rfl
theorem pk_13 {h0 : cv_H} {X : cv_X} {Q : cv_O → Prop} (hkc : cw_Holds fk_all mt_all cw_Ds cw_sh G (cw_PP G) kk_X3_knownCount) (hX : cw_Xok X) (hP0 : cw_PP G h0) (g : Int32) (hfin : ∀ (x : Int32) h, cw_T G h → cw_Fr cw_Ds cw_sh kk_X3_pick.2.2.2.2.2.1 h0 h → -1 ≤ x.toInt → x.toInt ≤ 1999 → Q (some (cv_i x), h)) : ∀ (N : Nat) (m i : Int32) (h : cv_H), cw_T G h → cw_Fr cw_Ds cw_sh kk_X3_pick.2.2.2.2.2.1 h0 h → ∀ L : cv_L, cv_get L 0 = some (cv_r 86) → cv_get L 1 = some (cv_i g) → cv_get L 2 = some (cv_i m) → cv_get L 3 = some (cv_i i) → 0 ≤ i.toInt ∧ i.toInt ≤ 40 → -1 ≤ m.toInt ∧ m.toInt ≤ 1999 → 0 ≤ ri_at h 86 8 → ri_at h 86 8 ≤ i.toInt → (40 - i.toInt).toNat ≤ N → cw_X X 45 Q 13 L [] h := by
  intro N
  induction N with
  | zero =>
    intro m i h Th Fh L q0 q1 q2 q3 i0 m0 p0 p1 hN
    refine ex_il oq_X3_pick_13 q3 ?_
    refine ex_al oq_X3_pick_14 q0 ?_
    have Ph : cw_PP G h := pp_fr0 (by decide +kernel) hP0 Fh
    refine ex_cv oq_X3_pick_15 (by decide) Th (k := 86) (d := 3) (as := []) (stk := [cv_i i]) rfl rfl rfl rfl rfl rfl ⟨rfl, rfl⟩ (cw_HX hkc rfl (cw_Xok_no2 hX) ⟨Th, Ph⟩ ⟨.inl ⟨by decide, 86, rfl, rfl⟩, trivial⟩ (fun t ht => absurd ht List.not_mem_nil)) (fun ox2 hox2 => ?_)
    obtain ⟨x2, h1, rfl, rx2, Th1, Ph1, Ch1, tx2⟩ := po_int hox2 rfl
    have lx2 := rx2.1
    have ux2 := rx2.2.1
    try dsimp only at lx2 ux2
    show cw_X _ _ _ _ _ [cv_i x2, cv_i i] h1
    have Fh1 : cw_Fr cw_Ds cw_sh kk_X3_pick.2.2.2.2.2.1 h0 h1 := cw_Fr_tr Fh (cw_Fr_mono (by decide +kernel) Ch1)
    have eh1_86_8 : ri_at h1 86 8 = ri_at h 86 8 := ri_frf Ch1 (d := 3) rfl rfl (by decide +kernel)
    refine ex_if oq_X3_pick_18 (t := 93) rfl rfl (fun (c3 : x2.toInt ≤ i.toInt) => ?_) (fun (c3 : ¬ (x2.toInt ≤ i.toInt)) => ?_)
    · refine ex_il oq_X3_pick_93 q2 ?_
      exact ex_reti oq_X3_pick_94 rfl (hfin m h1 Th1 Fh1 (by omega) (by omega))
    · refine ex_il oq_X3_pick_21 q3 ?_
      refine ex_bi oq_X3_pick_22 (m := 40) (by decide) (fun x4 hx4 => ?_)
      refine ex_if oq_X3_pick_24 (t := 93) rfl rfl (fun (c5 : x4.toInt ≤ i.toInt) => ?_) (fun (c5 : ¬ (x4.toInt ≤ i.toInt)) => ?_)
      · refine ex_il oq_X3_pick_93 q2 ?_
        exact ex_reti oq_X3_pick_94 rfl (hfin m h1 Th1 Fh1 (by omega) (by omega))
      · refine ex_al oq_X3_pick_27 q0 ?_
        refine ex_gf oq_X3_pick_28 Th1 (k := 86) (d := 3) rfl rfl (ri_ref (k := 86) (k' := 93) (d := 3) (f := 6) Th1 rfl rfl rfl (by decide) (ri_uniq (by decide +kernel))) ?_
        refine ex_il oq_X3_pick_31 q3 ?_
        refine ex_ba1 oq_X3_pick_32 Th1 (k := 93) (d := 26) (j := i.toInt.toNat) rfl rfl rfl (by omega) (by omega) (fun x6 hx6 lx6 ux6 => ?_)
        refine ex_if0 oq_X3_pick_33 (t := 87) rfl rfl (fun (c7 : ¬ x6.toInt = 0) => ?_) (fun (c7 : ¬ (¬ x6.toInt = 0)) => ?_)
        · refine ex_incA oq_X3_pick_87 (v := i) (m := 1) q3 (by decide) (by omega) (fun L9 x8 hx8 gL9_3 kL9 => ?_)
          have gL9_0 : cv_get L9 0 = some (cv_r 86) := kL9 0 _ (by decide) (fun q => absurd q (by decide)) q0
          have gL9_1 : cv_get L9 1 = some (cv_i g) := kL9 1 _ (by decide) (fun q => absurd q (by decide)) q1
          have gL9_2 : cv_get L9 2 = some (cv_i m) := kL9 2 _ (by decide) (fun _ => rfl) q2
          refine ex_go oq_X3_pick_90 (t := 13) rfl rfl ?_
          exfalso; omega -- m x8 h1 Th1 Fh1 L9 gL9_0 gL9_1 gL9_2 gL9_3 (by omega) (by omega) (by omega) (by omega) (by omega)
        · refine ex_al oq_X3_pick_36 q0 ?_
          refine ex_gf oq_X3_pick_37 Th1 (k := 86) (d := 3) rfl rfl (ri_ref (k := 86) (k' := 92) (d := 3) (f := 5) Th1 rfl rfl rfl (by decide) (ri_uniq (by decide +kernel))) ?_
          refine ex_il oq_X3_pick_40 q3 ?_
          refine ex_ia1 oq_X3_pick_41 Th1 (k := 92) (d := 25) (j := i.toInt.toNat) rfl rfl (by omega) (by omega) (fun x10 hx10 lx10 ux10 => ?_)
          refine ex_ic oq_X3_pick_42 (m := (-1)) (by decide) (fun x11 hx11 => ?_)
          refine ex_if oq_X3_pick_43 (t := 87) rfl rfl (fun (c12 : ¬ x10.toInt = x11.toInt) => ?_) (fun (c12 : ¬ (¬ x10.toInt = x11.toInt)) => ?_)
          · refine ex_incA oq_X3_pick_87 (v := i) (m := 1) q3 (by decide) (by omega) (fun L14 x13 hx13 gL14_3 kL14 => ?_)
            have gL14_0 : cv_get L14 0 = some (cv_r 86) := kL14 0 _ (by decide) (fun q => absurd q (by decide)) q0
            have gL14_1 : cv_get L14 1 = some (cv_i g) := kL14 1 _ (by decide) (fun q => absurd q (by decide)) q1
            have gL14_2 : cv_get L14 2 = some (cv_i m) := kL14 2 _ (by decide) (fun _ => rfl) q2
            refine ex_go oq_X3_pick_90 (t := 13) rfl rfl ?_
            exfalso; omega -- m x13 h1 Th1 Fh1 L14 gL14_0 gL14_1 gL14_2 gL14_3 (by omega) (by omega) (by omega) (by omega) (by omega)
          · refine ex_al oq_X3_pick_46 q0 ?_
            refine ex_gf oq_X3_pick_47 Th1 (k := 86) (d := 3) rfl rfl (ri_ref (k := 86) (k' := 87) (d := 3) (f := 0) Th1 rfl rfl rfl (by decide) (ri_uniq (by decide +kernel))) ?_
            refine ex_il oq_X3_pick_50 q3 ?_
            refine ex_ia1 oq_X3_pick_51 Th1 (k := 87) (d := 20) (j := i.toInt.toNat) rfl rfl (by omega) (by omega) (fun x15 hx15 lx15 ux15 => ?_)
            refine ex_il oq_X3_pick_52 q1 ?_
            refine ex_if oq_X3_pick_53 (t := 87) rfl rfl (fun (c16 : ¬ x15.toInt = g.toInt) => ?_) (fun (c16 : ¬ (¬ x15.toInt = g.toInt)) => ?_)
            · refine ex_incA oq_X3_pick_87 (v := i) (m := 1) q3 (by decide) (by omega) (fun L18 x17 hx17 gL18_3 kL18 => ?_)
              have gL18_0 : cv_get L18 0 = some (cv_r 86) := kL18 0 _ (by decide) (fun q => absurd q (by decide)) q0
              have gL18_1 : cv_get L18 1 = some (cv_i g) := kL18 1 _ (by decide) (fun q => absurd q (by decide)) q1
              have gL18_2 : cv_get L18 2 = some (cv_i m) := kL18 2 _ (by decide) (fun _ => rfl) q2
              refine ex_go oq_X3_pick_90 (t := 13) rfl rfl ?_
              exfalso; omega -- m x17 h1 Th1 Fh1 L18 gL18_0 gL18_1 gL18_2 gL18_3 (by omega) (by omega) (by omega) (by omega) (by omega)
            · refine ex_al oq_X3_pick_56 q0 ?_
              refine ex_gf oq_X3_pick_57 Th1 (k := 86) (d := 3) rfl rfl (ri_ref (k := 86) (k' := 94) (d := 3) (f := 7) Th1 rfl rfl rfl (by decide) (ri_uniq (by decide +kernel))) ?_
              refine ex_al oq_X3_pick_60 q0 ?_
              obtain ⟨x19, ax19, rx19, lx19, ux19⟩ := ri_fld (k := 86) (d := 3) (f := 8) Th1 rfl rfl rfl
              try dsimp only at lx19 ux19
              refine ex_gf oq_X3_pick_61 Th1 (k := 86) (d := 3) rfl rfl ax19 ?_
              refine ex_il oq_X3_pick_64 q3 ?_
              refine ex_iw1 oq_X3_pick_65 Th1 (k := 94) (d := 27) (j := x19.toInt.toNat) rfl rfl (by omega) (by omega) ⟨(cw_i32 _).1, (cw_i32 _).2⟩ (fun h20 Th20 wh20 => ?_)
              have Fh20 : cw_Fr cw_Ds cw_sh kk_X3_pick.2.2.2.2.2.1 h0 h20 := cw_Fr_tr Fh1 (cw_Fr_wrr wh20 (k := 94) (d := 27) rfl rfl (by decide +kernel))
              have eh20_86_8 : ri_at h20 86 8 = ri_at h1 86 8 := ri_ne wh20 (.inl (by decide))
              refine ex_al oq_X3_pick_66 q0 ?_
              refine ex_dup oq_X3_pick_67 rfl ?_
              obtain ⟨x21, ax21, rx21, lx21, ux21⟩ := ri_fld (k := 86) (d := 3) (f := 8) Th20 rfl rfl rfl
              try dsimp only at lx21 ux21
              refine ex_gf oq_X3_pick_68 Th20 (k := 86) (d := 3) rfl rfl ax21 ?_
              refine ex_ic oq_X3_pick_71 (m := 1) (by decide) (fun x22 hx22 => ?_)
              refine ex_add oq_X3_pick_72 (by omega) (fun x23 hx23 => ?_)
              refine ex_pfi oq_X3_pick_73 Th20 (k := 86) (d := 3) rfl rfl rfl (cw_i32 _).1 (cw_i32 _).2 (fun h24 Th24 wh24 => ?_)
              have Fh24 : cw_Fr cw_Ds cw_sh kk_X3_pick.2.2.2.2.2.1 h0 h24 := cw_Fr_tr Fh20 (cw_Fr_wrf wh24 (k := 86) (d := 3) rfl rfl (by decide +kernel))
              have eh24_86_8 : ri_at h24 86 8 = x23.toInt := ri_self wh24
              refine ex_il oq_X3_pick_76 q2 ?_
              refine ex_al oq_X3_pick_77 q0 ?_
              refine ex_gf oq_X3_pick_78 Th24 (k := 86) (d := 3) rfl rfl (ri_ref (k := 86) (k' := 88) (d := 3) (f := 1) Th24 rfl rfl rfl (by decide) (ri_uniq (by decide +kernel))) ?_
              refine ex_il oq_X3_pick_81 q3 ?_
              refine ex_ia1 oq_X3_pick_82 Th24 (k := 88) (d := 21) (j := i.toInt.toNat) rfl rfl (by omega) (by omega) (fun x25 hx25 lx25 ux25 => ?_)
              refine ex_max oq_X3_pick_83 (by decide) (by decide) (fun x26 hx26 => ?_)
              refine ex_isA oq_X3_pick_86 (fun L27 gL27_2 kL27 => ?_)
              have gL27_0 : cv_get L27 0 = some (cv_r 86) := kL27 0 _ (by decide) (fun q => absurd q (by decide)) q0
              have gL27_1 : cv_get L27 1 = some (cv_i g) := kL27 1 _ (by decide) (fun _ => rfl) q1
              have gL27_3 : cv_get L27 3 = some (cv_i i) := kL27 3 _ (by decide) (fun q => absurd q (by decide)) q3
              refine ex_incA oq_X3_pick_87 (v := i) (m := 1) gL27_3 (by decide) (by omega) (fun L29 x28 hx28 gL29_3 kL29 => ?_)
              have gL29_2 : cv_get L29 2 = some (cv_i x26) := kL29 2 _ (by decide) (fun _ => rfl) gL27_2
              have gL29_0 : cv_get L29 0 = some (cv_r 86) := kL29 0 _ (by decide) (fun q => absurd q (by decide)) gL27_0
              have gL29_1 : cv_get L29 1 = some (cv_i g) := kL29 1 _ (by decide) (fun q => absurd q (by decide)) gL27_1
              refine ex_go oq_X3_pick_90 (t := 13) rfl rfl ?_
              exfalso; omega -- x26 x28 h24 Th24 Fh24 L29 gL29_0 gL29_1 gL29_2 gL29_3 (by omega) (by omega) (by omega) (by omega) (by omega)
  | succ N ih =>
    intro m i h Th Fh L q0 q1 q2 q3 i0 m0 p0 p1 hN
    refine ex_il oq_X3_pick_13 q3 ?_
    refine ex_al oq_X3_pick_14 q0 ?_
    have Ph : cw_PP G h := pp_fr0 (by decide +kernel) hP0 Fh
    refine ex_cv oq_X3_pick_15 (by decide) Th (k := 86) (d := 3) (as := []) (stk := [cv_i i]) rfl rfl rfl rfl rfl rfl ⟨rfl, rfl⟩ (cw_HX hkc rfl (cw_Xok_no2 hX) ⟨Th, Ph⟩ ⟨.inl ⟨by decide, 86, rfl, rfl⟩, trivial⟩ (fun t ht => absurd ht List.not_mem_nil)) (fun ox2 hox2 => ?_)
    obtain ⟨x2, h1, rfl, rx2, Th1, Ph1, Ch1, tx2⟩ := po_int hox2 rfl
    have lx2 := rx2.1
    have ux2 := rx2.2.1
    try dsimp only at lx2 ux2
    show cw_X _ _ _ _ _ [cv_i x2, cv_i i] h1
    have Fh1 : cw_Fr cw_Ds cw_sh kk_X3_pick.2.2.2.2.2.1 h0 h1 := cw_Fr_tr Fh (cw_Fr_mono (by decide +kernel) Ch1)
    have eh1_86_8 : ri_at h1 86 8 = ri_at h 86 8 := ri_frf Ch1 (d := 3) rfl rfl (by decide +kernel)
    refine ex_if oq_X3_pick_18 (t := 93) rfl rfl (fun (c3 : x2.toInt ≤ i.toInt) => ?_) (fun (c3 : ¬ (x2.toInt ≤ i.toInt)) => ?_)
    · refine ex_il oq_X3_pick_93 q2 ?_
      exact ex_reti oq_X3_pick_94 rfl (hfin m h1 Th1 Fh1 (by omega) (by omega))
    · refine ex_il oq_X3_pick_21 q3 ?_
      refine ex_bi oq_X3_pick_22 (m := 40) (by decide) (fun x4 hx4 => ?_)
      refine ex_if oq_X3_pick_24 (t := 93) rfl rfl (fun (c5 : x4.toInt ≤ i.toInt) => ?_) (fun (c5 : ¬ (x4.toInt ≤ i.toInt)) => ?_)
      · refine ex_il oq_X3_pick_93 q2 ?_
        exact ex_reti oq_X3_pick_94 rfl (hfin m h1 Th1 Fh1 (by omega) (by omega))
      · refine ex_al oq_X3_pick_27 q0 ?_
        refine ex_gf oq_X3_pick_28 Th1 (k := 86) (d := 3) rfl rfl (ri_ref (k := 86) (k' := 93) (d := 3) (f := 6) Th1 rfl rfl rfl (by decide) (ri_uniq (by decide +kernel))) ?_
        refine ex_il oq_X3_pick_31 q3 ?_
        refine ex_ba1 oq_X3_pick_32 Th1 (k := 93) (d := 26) (j := i.toInt.toNat) rfl rfl rfl (by omega) (by omega) (fun x6 hx6 lx6 ux6 => ?_)
        refine ex_if0 oq_X3_pick_33 (t := 87) rfl rfl (fun (c7 : ¬ x6.toInt = 0) => ?_) (fun (c7 : ¬ (¬ x6.toInt = 0)) => ?_)
        · refine ex_incA oq_X3_pick_87 (v := i) (m := 1) q3 (by decide) (by omega) (fun L9 x8 hx8 gL9_3 kL9 => ?_)
          have gL9_0 : cv_get L9 0 = some (cv_r 86) := kL9 0 _ (by decide) (fun q => absurd q (by decide)) q0
          have gL9_1 : cv_get L9 1 = some (cv_i g) := kL9 1 _ (by decide) (fun q => absurd q (by decide)) q1
          have gL9_2 : cv_get L9 2 = some (cv_i m) := kL9 2 _ (by decide) (fun _ => rfl) q2
          refine ex_go oq_X3_pick_90 (t := 13) rfl rfl ?_
          exact ih m x8 h1 Th1 Fh1 L9 gL9_0 gL9_1 gL9_2 gL9_3 (by omega) (by omega) (by omega) (by omega) (by omega)
        · refine ex_al oq_X3_pick_36 q0 ?_
          refine ex_gf oq_X3_pick_37 Th1 (k := 86) (d := 3) rfl rfl (ri_ref (k := 86) (k' := 92) (d := 3) (f := 5) Th1 rfl rfl rfl (by decide) (ri_uniq (by decide +kernel))) ?_
          refine ex_il oq_X3_pick_40 q3 ?_
          refine ex_ia1 oq_X3_pick_41 Th1 (k := 92) (d := 25) (j := i.toInt.toNat) rfl rfl (by omega) (by omega) (fun x10 hx10 lx10 ux10 => ?_)
          refine ex_ic oq_X3_pick_42 (m := (-1)) (by decide) (fun x11 hx11 => ?_)
          refine ex_if oq_X3_pick_43 (t := 87) rfl rfl (fun (c12 : ¬ x10.toInt = x11.toInt) => ?_) (fun (c12 : ¬ (¬ x10.toInt = x11.toInt)) => ?_)
          · refine ex_incA oq_X3_pick_87 (v := i) (m := 1) q3 (by decide) (by omega) (fun L14 x13 hx13 gL14_3 kL14 => ?_)
            have gL14_0 : cv_get L14 0 = some (cv_r 86) := kL14 0 _ (by decide) (fun q => absurd q (by decide)) q0
            have gL14_1 : cv_get L14 1 = some (cv_i g) := kL14 1 _ (by decide) (fun q => absurd q (by decide)) q1
            have gL14_2 : cv_get L14 2 = some (cv_i m) := kL14 2 _ (by decide) (fun _ => rfl) q2
            refine ex_go oq_X3_pick_90 (t := 13) rfl rfl ?_
            exact ih m x13 h1 Th1 Fh1 L14 gL14_0 gL14_1 gL14_2 gL14_3 (by omega) (by omega) (by omega) (by omega) (by omega)
          · refine ex_al oq_X3_pick_46 q0 ?_
            refine ex_gf oq_X3_pick_47 Th1 (k := 86) (d := 3) rfl rfl (ri_ref (k := 86) (k' := 87) (d := 3) (f := 0) Th1 rfl rfl rfl (by decide) (ri_uniq (by decide +kernel))) ?_
            refine ex_il oq_X3_pick_50 q3 ?_
            refine ex_ia1 oq_X3_pick_51 Th1 (k := 87) (d := 20) (j := i.toInt.toNat) rfl rfl (by omega) (by omega) (fun x15 hx15 lx15 ux15 => ?_)
            refine ex_il oq_X3_pick_52 q1 ?_
            refine ex_if oq_X3_pick_53 (t := 87) rfl rfl (fun (c16 : ¬ x15.toInt = g.toInt) => ?_) (fun (c16 : ¬ (¬ x15.toInt = g.toInt)) => ?_)
            · refine ex_incA oq_X3_pick_87 (v := i) (m := 1) q3 (by decide) (by omega) (fun L18 x17 hx17 gL18_3 kL18 => ?_)
              have gL18_0 : cv_get L18 0 = some (cv_r 86) := kL18 0 _ (by decide) (fun q => absurd q (by decide)) q0
              have gL18_1 : cv_get L18 1 = some (cv_i g) := kL18 1 _ (by decide) (fun q => absurd q (by decide)) q1
              have gL18_2 : cv_get L18 2 = some (cv_i m) := kL18 2 _ (by decide) (fun _ => rfl) q2
              refine ex_go oq_X3_pick_90 (t := 13) rfl rfl ?_
              exact ih m x17 h1 Th1 Fh1 L18 gL18_0 gL18_1 gL18_2 gL18_3 (by omega) (by omega) (by omega) (by omega) (by omega)
            · refine ex_al oq_X3_pick_56 q0 ?_
              refine ex_gf oq_X3_pick_57 Th1 (k := 86) (d := 3) rfl rfl (ri_ref (k := 86) (k' := 94) (d := 3) (f := 7) Th1 rfl rfl rfl (by decide) (ri_uniq (by decide +kernel))) ?_
              refine ex_al oq_X3_pick_60 q0 ?_
              obtain ⟨x19, ax19, rx19, lx19, ux19⟩ := ri_fld (k := 86) (d := 3) (f := 8) Th1 rfl rfl rfl
              try dsimp only at lx19 ux19
              refine ex_gf oq_X3_pick_61 Th1 (k := 86) (d := 3) rfl rfl ax19 ?_
              refine ex_il oq_X3_pick_64 q3 ?_
              refine ex_iw1 oq_X3_pick_65 Th1 (k := 94) (d := 27) (j := x19.toInt.toNat) rfl rfl (by omega) (by omega) ⟨(cw_i32 _).1, (cw_i32 _).2⟩ (fun h20 Th20 wh20 => ?_)
              have Fh20 : cw_Fr cw_Ds cw_sh kk_X3_pick.2.2.2.2.2.1 h0 h20 := cw_Fr_tr Fh1 (cw_Fr_wrr wh20 (k := 94) (d := 27) rfl rfl (by decide +kernel))
              have eh20_86_8 : ri_at h20 86 8 = ri_at h1 86 8 := ri_ne wh20 (.inl (by decide))
              refine ex_al oq_X3_pick_66 q0 ?_
              refine ex_dup oq_X3_pick_67 rfl ?_
              obtain ⟨x21, ax21, rx21, lx21, ux21⟩ := ri_fld (k := 86) (d := 3) (f := 8) Th20 rfl rfl rfl
              try dsimp only at lx21 ux21
              refine ex_gf oq_X3_pick_68 Th20 (k := 86) (d := 3) rfl rfl ax21 ?_
              refine ex_ic oq_X3_pick_71 (m := 1) (by decide) (fun x22 hx22 => ?_)
              refine ex_add oq_X3_pick_72 (by omega) (fun x23 hx23 => ?_)
              refine ex_pfi oq_X3_pick_73 Th20 (k := 86) (d := 3) rfl rfl rfl (cw_i32 _).1 (cw_i32 _).2 (fun h24 Th24 wh24 => ?_)
              have Fh24 : cw_Fr cw_Ds cw_sh kk_X3_pick.2.2.2.2.2.1 h0 h24 := cw_Fr_tr Fh20 (cw_Fr_wrf wh24 (k := 86) (d := 3) rfl rfl (by decide +kernel))
              have eh24_86_8 : ri_at h24 86 8 = x23.toInt := ri_self wh24
              refine ex_il oq_X3_pick_76 q2 ?_
              refine ex_al oq_X3_pick_77 q0 ?_
              refine ex_gf oq_X3_pick_78 Th24 (k := 86) (d := 3) rfl rfl (ri_ref (k := 86) (k' := 88) (d := 3) (f := 1) Th24 rfl rfl rfl (by decide) (ri_uniq (by decide +kernel))) ?_
              refine ex_il oq_X3_pick_81 q3 ?_
              refine ex_ia1 oq_X3_pick_82 Th24 (k := 88) (d := 21) (j := i.toInt.toNat) rfl rfl (by omega) (by omega) (fun x25 hx25 lx25 ux25 => ?_)
              refine ex_max oq_X3_pick_83 (by decide) (by decide) (fun x26 hx26 => ?_)
              refine ex_isA oq_X3_pick_86 (fun L27 gL27_2 kL27 => ?_)
              have gL27_0 : cv_get L27 0 = some (cv_r 86) := kL27 0 _ (by decide) (fun q => absurd q (by decide)) q0
              have gL27_1 : cv_get L27 1 = some (cv_i g) := kL27 1 _ (by decide) (fun _ => rfl) q1
              have gL27_3 : cv_get L27 3 = some (cv_i i) := kL27 3 _ (by decide) (fun q => absurd q (by decide)) q3
              refine ex_incA oq_X3_pick_87 (v := i) (m := 1) gL27_3 (by decide) (by omega) (fun L29 x28 hx28 gL29_3 kL29 => ?_)
              have gL29_2 : cv_get L29 2 = some (cv_i x26) := kL29 2 _ (by decide) (fun _ => rfl) gL27_2
              have gL29_0 : cv_get L29 0 = some (cv_r 86) := kL29 0 _ (by decide) (fun q => absurd q (by decide)) gL27_0
              have gL29_1 : cv_get L29 1 = some (cv_i g) := kL29 1 _ (by decide) (fun q => absurd q (by decide)) gL27_1
              refine ex_go oq_X3_pick_90 (t := 13) rfl rfl ?_
              exact ih x26 x28 h24 Th24 Fh24 L29 gL29_0 gL29_1 gL29_2 gL29_3 (by omega) (by omega) (by omega) (by omega) (by omega)
theorem hk_X3_pick (hkc : cw_Holds fk_all mt_all cw_Ds cw_sh G (cw_PP G) kk_X3_knownCount) (hfs : cw_Holds fk_all mt_all cw_Ds cw_sh G (cw_PP G) kk_X3_findStruck) : cw_Holds fk_all mt_all cw_Ds cw_sh G (cw_PP G) kk_X3_pick := by
  refine cw_XH fun X h av hX hT hP hg hfp => ?_
  match av, hg with
  | [v0, v1], ⟨h0, ⟨g, e1, rg⟩, _⟩ =>
  obtain rfl : v0 = cv_r 86 := by
    rcases h0 with ⟨-, k, rfl, hk⟩ | ⟨j, hj, -⟩
    · rw [ri_uniq (d := 3) (k := 86) (by decide +kernel) k hk]
    · omega
  subst e1
  have Fh : cw_Fr cw_Ds cw_sh kk_X3_pick.2.2.2.2.2.1 h h := cw_Fr_refl
  refine ex_al oq_X3_pick_0 rfl ?_
  refine ex_cv oq_X3_pick_1 (by decide) hT (k := 86) (d := 3) (as := []) (stk := []) rfl rfl rfl rfl rfl rfl ⟨rfl, rfl⟩ (cw_HX hfs rfl (cw_Xok_no2 hX) ⟨hT, hP⟩ ⟨.inl ⟨by decide, 86, rfl, rfl⟩, trivial⟩ (fun t ht => absurd ht List.not_mem_nil)) (fun ox502 hox502 => ?_)
  obtain ⟨h501, rfl, Th501, Ph501, Ch501⟩ := po_non hox502 rfl
  show cw_X _ _ _ _ _ [] h501
  have Fh501 : cw_Fr cw_Ds cw_sh kk_X3_pick.2.2.2.2.2.1 h h501 := cw_Fr_tr Fh (cw_Fr_mono (by decide +kernel) Ch501)
  have eh501_86_8 : ri_at h501 86 8 = ri_at h 86 8 := ri_frf Ch501 (d := 3) rfl rfl (by decide +kernel)
  refine ex_al oq_X3_pick_4 rfl ?_
  refine ex_ic oq_X3_pick_5 (m := 0) (by decide) (fun x503 hx503 => ?_)
  refine ex_pfi oq_X3_pick_6 Th501 (k := 86) (d := 3) rfl rfl rfl (cw_i32 _).1 (cw_i32 _).2 (fun h504 Th504 wh504 => ?_)
  have Fh504 : cw_Fr cw_Ds cw_sh kk_X3_pick.2.2.2.2.2.1 h h504 := cw_Fr_tr Fh501 (cw_Fr_wrf wh504 (k := 86) (d := 3) rfl rfl (by decide +kernel))
  have eh504_86_8 : ri_at h504 86 8 = x503.toInt := ri_self wh504
  refine ex_ic oq_X3_pick_9 (m := (-1)) (by decide) (fun x505 hx505 => ?_)
  refine ex_isA oq_X3_pick_10 (fun L506 gL506_2 kL506 => ?_)
  have gL506_0 : cv_get L506 0 = some (cv_r 86) := kL506 0 _ (by decide) (fun q => absurd q (by decide)) rfl
  have gL506_1 : cv_get L506 1 = some (cv_i g) := kL506 1 _ (by decide) (fun _ => rfl) rfl
  refine ex_ic oq_X3_pick_11 (m := 0) (by decide) (fun x507 hx507 => ?_)
  refine ex_isA oq_X3_pick_12 (fun L508 gL508_3 kL508 => ?_)
  have gL508_2 : cv_get L508 2 = some (cv_i x505) := kL508 2 _ (by decide) (fun _ => rfl) gL506_2
  have gL508_0 : cv_get L508 0 = some (cv_r 86) := kL508 0 _ (by decide) (fun q => absurd q (by decide)) gL506_0
  have gL508_1 : cv_get L508 1 = some (cv_i g) := kL508 1 _ (by decide) (fun q => absurd q (by decide)) gL506_1
  exact pk_13 hkc hX hP g (fun x h a1 a2 a3 a4 => ⟨⟨x, rfl, a3, a4, cw_tg0⟩, ⟨a1, pp_fr0 (by decide +kernel) hP a2⟩, a2, fun y hy hy0 => ⟨fun t ht => absurd ht List.not_mem_nil, fun t ht => absurd ht List.not_mem_nil⟩⟩) _ x505 x507 h504 Th504 Fh504 L508 gL508_0 gL508_1 gL508_2 gL508_3 (by omega) (by omega) (by omega) (by omega) (Nat.le_refl _)
end SPE
