/-! ===== methods walked by hand: measure, strike, weeks ===== -/
section SPF
variable {G : Int} {X : cv_X} {Q : cv_O → Prop}
theorem cw_tg2 {z : Int} (h0 : 0 ≤ z) (h1 : z < G) : cw_tg G 2 z := ⟨fun h => absurd h (by decide), fun _ => ⟨h0, h1⟩, fun h => absurd h (by decide), fun h => absurd h (by decide)⟩
theorem sp_isIn {h : cv_H} (hT : cw_T G h) (n0 n1 n2 : Int32)  (hQ : ∀ x : Int32, x.toInt = 1 ∧ n1.toInt ≤ n0.toInt ∧ n0.toInt ≤ n2.toInt ∨ x.toInt = 0 ∧ ¬ (n1.toInt ≤ n0.toInt ∧ n0.toInt ≤ n2.toInt) → Q (some (cv_i x), h)) : cw_X X 156 Q 0 (cv_ent 0 [cv_i n0, cv_i n1, cv_i n2]) [] h := by
  refine ex_il oq_X12_isIn_0 rfl ?_
  refine ex_il oq_X12_isIn_1 rfl ?_
  refine ex_if oq_X12_isIn_2 (t := 14) rfl rfl (fun (c1 : n0.toInt < n1.toInt) => ?_) (fun (c1 : ¬ (n0.toInt < n1.toInt)) => ?_)
  · refine ex_ic oq_X12_isIn_14 (m := 0) (by decide) (fun x2 hx2 => ?_)
    exact ex_retb oq_X12_isIn_15 rfl (by omega) (by omega) (hQ x2 (by omega))
  · refine ex_il oq_X12_isIn_5 rfl ?_
    refine ex_il oq_X12_isIn_6 rfl ?_
    refine ex_if oq_X12_isIn_7 (t := 14) rfl rfl (fun (c3 : n2.toInt < n0.toInt) => ?_) (fun (c3 : ¬ (n2.toInt < n0.toInt)) => ?_)
    · refine ex_ic oq_X12_isIn_14 (m := 0) (by decide) (fun x4 hx4 => ?_)
      exact ex_retb oq_X12_isIn_15 rfl (by omega) (by omega) (hQ x4 (by omega))
    · refine ex_ic oq_X12_isIn_10 (m := 1) (by decide) (fun x5 hx5 => ?_)
      refine ex_go oq_X12_isIn_11 (t := 15) rfl rfl ?_
      exact ex_retb oq_X12_isIn_15 rfl (by omega) (by omega) (hQ x5 (by omega))
theorem oq_X12_isGate_0 : cw_ho 216 0 (.iload_n 1) 1 0 0 0 := rfl
theorem oq_X12_isGate_1 : cw_ho 216 1 (.ifCond .lt 15) 3 0 0 0 := rfl
theorem oq_X12_isGate_4 : cw_ho 216 4 (.iload_n 1) 1 0 0 0 := rfl
theorem oq_X12_isGate_5 : cw_ho 216 5 (.aload_n 0) 1 0 0 0 := rfl
theorem oq_X12_isGate_6 : cw_ho 216 6 (.getfield 216) 3 12 12 0 := rfl
theorem oq_X12_isGate_9 : cw_ho 216 9 (.if_icmp .ge 7) 3 0 0 0 := rfl
theorem oq_X12_isGate_12 : cw_ho 216 12 (.iconst 1) 1 0 0 0 := rfl
theorem oq_X12_isGate_13 : cw_ho 216 13 (.goto 4) 3 0 0 0 := rfl
theorem oq_X12_isGate_16 : cw_ho 216 16 (.iconst 0) 1 0 0 0 := rfl
theorem oq_X12_isGate_17 : cw_ho 216 17 (.ireturn) 1 0 0 0 := rfl
theorem sp_isGate {h : cv_H} (hT : cw_T G h) (n0 : Int32)  (hQ : ∀ x : Int32, x.toInt = 1 ∧ 0 ≤ n0.toInt ∧ n0.toInt < G ∨ x.toInt = 0 ∧ ¬ (0 ≤ n0.toInt ∧ n0.toInt < G) → Q (some (cv_i x), h)) : cw_X X 216 Q 0 (cv_ent 0 [cv_r 111, cv_i n0]) [] h := by
  have hG := fr_G hT
  refine ex_il oq_X12_isGate_0 rfl ?_
  refine ex_if0 oq_X12_isGate_1 (t := 16) rfl rfl (fun (c1 : n0.toInt < 0) => ?_) (fun (c1 : ¬ (n0.toInt < 0)) => ?_)
  · refine ex_ic oq_X12_isGate_16 (m := 0) (by decide) (fun x2 hx2 => ?_)
    exact ex_retb oq_X12_isGate_17 rfl (by omega) (by omega) (hQ x2 (by omega))
  · refine ex_il oq_X12_isGate_4 rfl ?_
    refine ex_al oq_X12_isGate_5 rfl ?_
    obtain ⟨x3, ax3, rx3, lx3, ux3⟩ := fi_gates hT
    refine ex_gf oq_X12_isGate_6 hT (k := 111) (d := 12) rfl rfl ax3 ?_
    refine ex_if oq_X12_isGate_9 (t := 16) rfl rfl (fun (c4 : x3.toInt ≤ n0.toInt) => ?_) (fun (c4 : ¬ (x3.toInt ≤ n0.toInt)) => ?_)
    · refine ex_ic oq_X12_isGate_16 (m := 0) (by decide) (fun x5 hx5 => ?_)
      exact ex_retb oq_X12_isGate_17 rfl (by omega) (by omega) (hQ x5 (by omega))
    · refine ex_ic oq_X12_isGate_12 (m := 1) (by decide) (fun x6 hx6 => ?_)
      refine ex_go oq_X12_isGate_13 (t := 17) rfl rfl ?_
      exact ex_retb oq_X12_isGate_17 rfl (by omega) (by omega) (hQ x6 (by omega))
theorem oq_X12_isOf_0 : cw_ho 157 0 (.iload_n 0) 1 0 0 0 := rfl
theorem oq_X12_isOf_1 : cw_ho 157 1 (.iload_n 1) 1 0 0 0 := rfl
theorem oq_X12_isOf_2 : cw_ho 157 2 (.ishr) 1 0 0 0 := rfl
theorem oq_X12_isOf_3 : cw_ho 157 3 (.iconst 1) 1 0 0 0 := rfl
theorem oq_X12_isOf_4 : cw_ho 157 4 (.iand) 1 0 0 0 := rfl
theorem oq_X12_isOf_5 : cw_ho 157 5 (.iconst 1) 1 0 0 0 := rfl
theorem oq_X12_isOf_6 : cw_ho 157 6 (.if_icmp .ne 7) 3 0 0 0 := rfl
theorem oq_X12_isOf_9 : cw_ho 157 9 (.iconst 1) 1 0 0 0 := rfl
theorem oq_X12_isOf_10 : cw_ho 157 10 (.goto 4) 3 0 0 0 := rfl
theorem oq_X12_isOf_13 : cw_ho 157 13 (.iconst 0) 1 0 0 0 := rfl
theorem oq_X12_isOf_14 : cw_ho 157 14 (.ireturn) 1 0 0 0 := rfl
theorem sp_isOf {h : cv_H} (hT : cw_T G h) (n0 n1 : Int32)  (hQ : ∀ x : Int32, x.toInt = 0 ∨ x.toInt = 1 → Q (some (cv_i x), h)) : cw_X X 157 Q 0 (cv_ent 0 [cv_i n0, cv_i n1]) [] h := by
  refine ex_il oq_X12_isOf_0 rfl ?_
  refine ex_il oq_X12_isOf_1 rfl ?_
  refine ex_any (f := fun x y => some x) oq_X12_isOf_2 rfl (fun x1 => ?_)
  refine ex_ic oq_X12_isOf_3 (m := 1) (by decide) (fun x2 hx2 => ?_)
  refine ex_any (f := fun x y => some x) oq_X12_isOf_4 rfl (fun x3 => ?_)
  refine ex_ic oq_X12_isOf_5 (m := 1) (by decide) (fun x4 hx4 => ?_)
  refine ex_if oq_X12_isOf_6 (t := 13) rfl rfl (fun (c5 : ¬ x3.toInt = x4.toInt) => ?_) (fun (c5 : ¬ (¬ x3.toInt = x4.toInt)) => ?_)
  · refine ex_ic oq_X12_isOf_13 (m := 0) (by decide) (fun x6 hx6 => ?_)
    exact ex_retb oq_X12_isOf_14 rfl (by omega) (by omega) (hQ x6 (by omega))
  · refine ex_ic oq_X12_isOf_9 (m := 1) (by decide) (fun x7 hx7 => ?_)
    refine ex_go oq_X12_isOf_10 (t := 14) rfl rfl ?_
    exact ex_retb oq_X12_isOf_14 rfl (by omega) (by omega) (hQ x7 (by omega))
theorem oq_X12_measure_0 : cw_ho 238 0 (.aload_n 0) 1 0 0 0 := rfl
theorem oq_X12_measure_1 : cw_ho 238 1 (.iconst 0) 1 0 0 0 := rfl
theorem oq_X12_measure_2 : cw_ho 238 2 (.putfield 136) 3 12 2 0 := rfl
theorem oq_X12_measure_5 : cw_ho 238 5 (.aload_n 0) 1 0 0 0 := rfl
theorem oq_X12_measure_6 : cw_ho 238 6 (.getfield 243) 3 12 52 0 := rfl
theorem oq_X12_measure_9 : cw_ho 238 9 (.bipush 40) 2 0 0 0 := rfl
theorem oq_X12_measure_11 : cw_ho 238 11 (.if_icmp .eq 58) 3 0 0 0 := rfl
theorem oq_X12_measure_14 : cw_ho 238 14 (.aload_n 0) 1 0 0 0 := rfl
theorem oq_X12_measure_15 : cw_ho 238 15 (.iload_n 1) 1 0 0 0 := rfl
theorem oq_X12_measure_16 : cw_ho 238 16 (.invokevirtual 407) 3 216 1 12 := rfl
theorem oq_X12_measure_19 : cw_ho 238 19 (.ifCond .eq 50) 3 0 0 0 := rfl
theorem oq_X12_measure_22 : cw_ho 238 22 (.iload_n 2) 1 0 0 0 := rfl
theorem oq_X12_measure_23 : cw_ho 238 23 (.iconst 0) 1 0 0 0 := rfl
theorem oq_X12_measure_24 : cw_ho 238 24 (.sipush 1999) 3 0 0 0 := rfl
theorem oq_X12_measure_27 : cw_ho 238 27 (.invokestatic 180) 3 156 3 0 := rfl
theorem oq_X12_measure_30 : cw_ho 238 30 (.ifCond .eq 39) 3 0 0 0 := rfl
theorem oq_X12_measure_33 : cw_ho 238 33 (.iload_n 3) 1 0 0 0 := rfl
theorem oq_X12_measure_34 : cw_ho 238 34 (.iconst 0) 1 0 0 0 := rfl
theorem oq_X12_measure_35 : cw_ho 238 35 (.iconst 3) 1 0 0 0 := rfl
theorem oq_X12_measure_36 : cw_ho 238 36 (.invokestatic 180) 3 156 3 0 := rfl
theorem oq_X12_measure_39 : cw_ho 238 39 (.ifCond .eq 30) 3 0 0 0 := rfl
theorem oq_X12_measure_42 : cw_ho 238 42 (.iload 4) 2 0 0 0 := rfl
theorem oq_X12_measure_44 : cw_ho 238 44 (.ldc_w 440) 3 0 0 (-9999999) := rfl
theorem oq_X12_measure_47 : cw_ho 238 47 (.ldc_w 441) 3 0 0 9999999 := rfl
theorem oq_X12_measure_50 : cw_ho 238 50 (.invokestatic 180) 3 156 3 0 := rfl
theorem oq_X12_measure_53 : cw_ho 238 53 (.ifCond .eq 16) 3 0 0 0 := rfl
theorem oq_X12_measure_56 : cw_ho 238 56 (.iload 5) 2 0 0 0 := rfl
theorem oq_X12_measure_58 : cw_ho 238 58 (.iload 4) 2 0 0 0 := rfl
theorem oq_X12_measure_60 : cw_ho 238 60 (.ldc_w 441) 3 0 0 9999999 := rfl
theorem oq_X12_measure_63 : cw_ho 238 63 (.invokestatic 180) 3 156 3 0 := rfl
theorem oq_X12_measure_66 : cw_ho 238 66 (.ifCond .ne 5) 3 0 0 0 := rfl
theorem oq_X12_measure_69 : cw_ho 238 69 (.iconst (-1)) 1 0 0 0 := rfl
theorem oq_X12_measure_70 : cw_ho 238 70 (.ireturn) 1 0 0 0 := rfl
theorem oq_X12_measure_71 : cw_ho 238 71 (.aload_n 0) 1 0 0 0 := rfl
theorem oq_X12_measure_72 : cw_ho 238 72 (.getfield 91) 3 12 54 4 := rfl
theorem oq_X12_measure_75 : cw_ho 238 75 (.aload_n 0) 1 0 0 0 := rfl
theorem oq_X12_measure_76 : cw_ho 238 76 (.getfield 243) 3 12 52 0 := rfl
theorem oq_X12_measure_79 : cw_ho 238 79 (.iload_n 1) 1 0 0 0 := rfl
theorem oq_X12_measure_80 : cw_ho 238 80 (.iastore) 1 0 0 0 := rfl
theorem oq_X12_measure_81 : cw_ho 238 81 (.aload_n 0) 1 0 0 0 := rfl
theorem oq_X12_measure_82 : cw_ho 238 82 (.getfield 94) 3 12 55 4 := rfl
theorem oq_X12_measure_85 : cw_ho 238 85 (.aload_n 0) 1 0 0 0 := rfl
theorem oq_X12_measure_86 : cw_ho 238 86 (.getfield 243) 3 12 52 0 := rfl
theorem oq_X12_measure_89 : cw_ho 238 89 (.iload_n 2) 1 0 0 0 := rfl
theorem oq_X12_measure_90 : cw_ho 238 90 (.iastore) 1 0 0 0 := rfl
theorem oq_X12_measure_91 : cw_ho 238 91 (.aload_n 0) 1 0 0 0 := rfl
theorem oq_X12_measure_92 : cw_ho 238 92 (.getfield 97) 3 12 56 4 := rfl
theorem oq_X12_measure_95 : cw_ho 238 95 (.aload_n 0) 1 0 0 0 := rfl
theorem oq_X12_measure_96 : cw_ho 238 96 (.getfield 243) 3 12 52 0 := rfl
theorem oq_X12_measure_99 : cw_ho 238 99 (.iload_n 3) 1 0 0 0 := rfl
theorem oq_X12_measure_100 : cw_ho 238 100 (.iastore) 1 0 0 0 := rfl
theorem oq_X12_measure_101 : cw_ho 238 101 (.aload_n 0) 1 0 0 0 := rfl
theorem oq_X12_measure_102 : cw_ho 238 102 (.getfield 100) 3 12 57 4 := rfl
theorem oq_X12_measure_105 : cw_ho 238 105 (.aload_n 0) 1 0 0 0 := rfl
theorem oq_X12_measure_106 : cw_ho 238 106 (.getfield 243) 3 12 52 0 := rfl
theorem oq_X12_measure_109 : cw_ho 238 109 (.iload 4) 2 0 0 0 := rfl
theorem oq_X12_measure_111 : cw_ho 238 111 (.iastore) 1 0 0 0 := rfl
theorem oq_X12_measure_112 : cw_ho 238 112 (.aload_n 0) 1 0 0 0 := rfl
theorem oq_X12_measure_113 : cw_ho 238 113 (.getfield 103) 3 12 58 4 := rfl
theorem oq_X12_measure_116 : cw_ho 238 116 (.aload_n 0) 1 0 0 0 := rfl
theorem oq_X12_measure_117 : cw_ho 238 117 (.getfield 243) 3 12 52 0 := rfl
theorem oq_X12_measure_120 : cw_ho 238 120 (.iload 5) 2 0 0 0 := rfl
theorem oq_X12_measure_122 : cw_ho 238 122 (.iastore) 1 0 0 0 := rfl
theorem oq_X12_measure_123 : cw_ho 238 123 (.aload_n 0) 1 0 0 0 := rfl
theorem oq_X12_measure_124 : cw_ho 238 124 (.dup) 1 0 0 0 := rfl
theorem oq_X12_measure_125 : cw_ho 238 125 (.getfield 243) 3 12 52 0 := rfl
theorem oq_X12_measure_128 : cw_ho 238 128 (.iconst 1) 1 0 0 0 := rfl
theorem oq_X12_measure_129 : cw_ho 238 129 (.iadd) 1 0 0 0 := rfl
theorem oq_X12_measure_130 : cw_ho 238 130 (.putfield 243) 3 12 52 0 := rfl
theorem oq_X12_measure_133 : cw_ho 238 133 (.aload_n 0) 1 0 0 0 := rfl
theorem oq_X12_measure_134 : cw_ho 238 134 (.getfield 243) 3 12 52 0 := rfl
theorem oq_X12_measure_137 : cw_ho 238 137 (.iconst 1) 1 0 0 0 := rfl
theorem oq_X12_measure_138 : cw_ho 238 138 (.isub) 1 0 0 0 := rfl
theorem oq_X12_measure_139 : cw_ho 238 139 (.ireturn) 1 0 0 0 := rfl
theorem hk_X12_measure : cw_Holds fk_all mt_all cw_Ds cw_sh G (cw_PP G) kk_X12_measure := by
  refine cw_XH fun X h av hX hT hP hg hfp => ?_
  match av, hg with
  | [v0, v1, v2, v3, v4, v5], ⟨h0, ⟨g, e1, rg⟩, ⟨n, e2, rn⟩, ⟨w, e3, rw⟩, ⟨lo, e4, rlo⟩, ⟨hi, e5, rhi⟩, _⟩ =>
  obtain rfl : v0 = cv_r 111 := by
    rcases h0 with ⟨-, k, rfl, hk⟩ | ⟨j, hj, -⟩
    · rw [ri_uniq (d := 12) (k := 111) (by decide +kernel) k hk]
    · omega
  subst e1 e2 e3 e4 e5
  have Fh : cw_Fr cw_Ds cw_sh kk_X12_measure.2.2.2.2.2.1 h h := cw_Fr_refl
  obtain ⟨_, _, rG0, lG0, uG0⟩ := fi_gates hT
  have hG0 := fr_G hT
  refine ex_al oq_X12_measure_0 rfl ?_
  refine ex_ic oq_X12_measure_1 (m := 0) (by decide) (fun x1 hx1 => ?_)
  refine ex_pfi oq_X12_measure_2 hT (k := 111) (d := 12) rfl rfl rfl (cw_i32 _).1 (cw_i32 _).2 (fun h2 Th2 wh2 => ?_)
  have Fh2 : cw_Fr cw_Ds cw_sh kk_X12_measure.2.2.2.2.2.1 h h2 := cw_Fr_tr Fh (cw_Fr_wrf wh2 (k := 111) (d := 12) rfl rfl (by decide +kernel))
  have eh2_52 : ri_at h2 111 52 = ri_at h 111 52 := ri_ne wh2 (by decide)
  refine ex_al oq_X12_measure_5 rfl ?_
  obtain ⟨x3, ax3, rx3, lx3, ux3⟩ := fi_measures Th2
  refine ex_gf oq_X12_measure_6 Th2 (k := 111) (d := 12) rfl rfl ax3 ?_
  refine ex_bi oq_X12_measure_9 (m := 40) (by decide) (fun x4 hx4 => ?_)
  refine ex_if oq_X12_measure_11 (t := 69) rfl rfl (fun (c5 : x3.toInt = x4.toInt) => ?_) (fun (c5 : ¬ (x3.toInt = x4.toInt)) => ?_)
  · refine ex_ic oq_X12_measure_69 (m := (-1)) (by decide) (fun x6 hx6 => ?_)
    have p6 : pp_6 h2 := by
      intro k hk
      have f1 : ri_at h2 136 k = ri_at h 136 k := (ri_ne wh2 (.inl (by decide)))
      have f2 : ri_at h2 137 k = ri_at h 137 k := (ri_ne wh2 (.inl (by decide)))
      rw [f1, f2]; exact hP.2.2.2.2.2.1 k hk
    exact ex_reti oq_X12_measure_70 rfl ⟨⟨x6, rfl, cw_top_ok _⟩, ⟨Th2, ⟨pc_1 (by decide +kernel) hP.1 Fh2, pc_2 (by decide +kernel) hP.2.1 Fh2, pc_3 (by decide +kernel) hP.2.2.1 Fh2, pc_4 (by decide +kernel) hP.2.2.2.1 Fh2, pc_5 (by decide +kernel) hP.2.2.2.2.1 Fh2, p6, pc_7 (by decide +kernel) hP.2.2.2.2.2.2 Fh2⟩⟩, Fh2, fun y hy hy0 => ⟨fun t ht => absurd ht List.not_mem_nil, fun t ht => absurd ht List.not_mem_nil⟩⟩
  · refine ex_al oq_X12_measure_14 rfl ?_
    refine ex_il oq_X12_measure_15 rfl ?_
    refine ex_cv oq_X12_measure_16 (by decide) Th2 (k := 111) (d := 12) (as := [cv_i g]) (stk := []) rfl rfl rfl rfl rfl rfl ⟨rfl, rfl⟩ (R := fun o => ∃ x : Int32, o = (some (cv_i x), h2) ∧ (x.toInt = 1 ∧ 0 ≤ g.toInt ∧ g.toInt < G ∨ x.toInt = 0 ∧ ¬ (0 ≤ g.toInt ∧ g.toInt < G))) (sp_isGate Th2 g  (fun x hx => ⟨x, rfl, hx⟩)) (fun ox7 hox7 => ?_)
    obtain ⟨x7, rfl, hx7⟩ := hox7
    show cw_X _ _ _ _ _ [cv_i x7] h2
    refine ex_if0 oq_X12_measure_19 (t := 69) rfl rfl (fun (c8 : x7.toInt = 0) => ?_) (fun (c8 : ¬ (x7.toInt = 0)) => ?_)
    · refine ex_ic oq_X12_measure_69 (m := (-1)) (by decide) (fun x9 hx9 => ?_)
      have p6 : pp_6 h2 := by
        intro k hk
        have f1 : ri_at h2 136 k = ri_at h 136 k := (ri_ne wh2 (.inl (by decide)))
        have f2 : ri_at h2 137 k = ri_at h 137 k := (ri_ne wh2 (.inl (by decide)))
        rw [f1, f2]; exact hP.2.2.2.2.2.1 k hk
      exact ex_reti oq_X12_measure_70 rfl ⟨⟨x9, rfl, cw_top_ok _⟩, ⟨Th2, ⟨pc_1 (by decide +kernel) hP.1 Fh2, pc_2 (by decide +kernel) hP.2.1 Fh2, pc_3 (by decide +kernel) hP.2.2.1 Fh2, pc_4 (by decide +kernel) hP.2.2.2.1 Fh2, pc_5 (by decide +kernel) hP.2.2.2.2.1 Fh2, p6, pc_7 (by decide +kernel) hP.2.2.2.2.2.2 Fh2⟩⟩, Fh2, fun y hy hy0 => ⟨fun t ht => absurd ht List.not_mem_nil, fun t ht => absurd ht List.not_mem_nil⟩⟩
    · refine ex_il oq_X12_measure_22 rfl ?_
      refine ex_ic oq_X12_measure_23 (m := 0) (by decide) (fun x10 hx10 => ?_)
      refine ex_si oq_X12_measure_24 (m := 1999) (by decide) (fun x11 hx11 => ?_)
      refine ex_cs oq_X12_measure_27 (by decide) (as := [cv_i n, cv_i x10, cv_i x11]) (stk := []) rfl rfl rfl ⟨rfl, rfl⟩ (R := fun o => ∃ x : Int32, o = (some (cv_i x), h2) ∧ (x.toInt = 1 ∧ x10.toInt ≤ n.toInt ∧ n.toInt ≤ x11.toInt ∨ x.toInt = 0 ∧ ¬ (x10.toInt ≤ n.toInt ∧ n.toInt ≤ x11.toInt))) (sp_isIn Th2 n x10 x11  (fun x hx => ⟨x, rfl, hx⟩)) (fun ox12 hox12 => ?_)
      obtain ⟨x12, rfl, hx12⟩ := hox12
      show cw_X _ _ _ _ _ [cv_i x12] h2
      refine ex_if0 oq_X12_measure_30 (t := 69) rfl rfl (fun (c13 : x12.toInt = 0) => ?_) (fun (c13 : ¬ (x12.toInt = 0)) => ?_)
      · refine ex_ic oq_X12_measure_69 (m := (-1)) (by decide) (fun x14 hx14 => ?_)
        have p6 : pp_6 h2 := by
          intro k hk
          have f1 : ri_at h2 136 k = ri_at h 136 k := (ri_ne wh2 (.inl (by decide)))
          have f2 : ri_at h2 137 k = ri_at h 137 k := (ri_ne wh2 (.inl (by decide)))
          rw [f1, f2]; exact hP.2.2.2.2.2.1 k hk
        exact ex_reti oq_X12_measure_70 rfl ⟨⟨x14, rfl, cw_top_ok _⟩, ⟨Th2, ⟨pc_1 (by decide +kernel) hP.1 Fh2, pc_2 (by decide +kernel) hP.2.1 Fh2, pc_3 (by decide +kernel) hP.2.2.1 Fh2, pc_4 (by decide +kernel) hP.2.2.2.1 Fh2, pc_5 (by decide +kernel) hP.2.2.2.2.1 Fh2, p6, pc_7 (by decide +kernel) hP.2.2.2.2.2.2 Fh2⟩⟩, Fh2, fun y hy hy0 => ⟨fun t ht => absurd ht List.not_mem_nil, fun t ht => absurd ht List.not_mem_nil⟩⟩
      · refine ex_il oq_X12_measure_33 rfl ?_
        refine ex_ic oq_X12_measure_34 (m := 0) (by decide) (fun x15 hx15 => ?_)
        refine ex_ic oq_X12_measure_35 (m := 3) (by decide) (fun x16 hx16 => ?_)
        refine ex_cs oq_X12_measure_36 (by decide) (as := [cv_i w, cv_i x15, cv_i x16]) (stk := []) rfl rfl rfl ⟨rfl, rfl⟩ (R := fun o => ∃ x : Int32, o = (some (cv_i x), h2) ∧ (x.toInt = 1 ∧ x15.toInt ≤ w.toInt ∧ w.toInt ≤ x16.toInt ∨ x.toInt = 0 ∧ ¬ (x15.toInt ≤ w.toInt ∧ w.toInt ≤ x16.toInt))) (sp_isIn Th2 w x15 x16  (fun x hx => ⟨x, rfl, hx⟩)) (fun ox17 hox17 => ?_)
        obtain ⟨x17, rfl, hx17⟩ := hox17
        show cw_X _ _ _ _ _ [cv_i x17] h2
        refine ex_if0 oq_X12_measure_39 (t := 69) rfl rfl (fun (c18 : x17.toInt = 0) => ?_) (fun (c18 : ¬ (x17.toInt = 0)) => ?_)
        · refine ex_ic oq_X12_measure_69 (m := (-1)) (by decide) (fun x19 hx19 => ?_)
          have p6 : pp_6 h2 := by
            intro k hk
            have f1 : ri_at h2 136 k = ri_at h 136 k := (ri_ne wh2 (.inl (by decide)))
            have f2 : ri_at h2 137 k = ri_at h 137 k := (ri_ne wh2 (.inl (by decide)))
            rw [f1, f2]; exact hP.2.2.2.2.2.1 k hk
          exact ex_reti oq_X12_measure_70 rfl ⟨⟨x19, rfl, cw_top_ok _⟩, ⟨Th2, ⟨pc_1 (by decide +kernel) hP.1 Fh2, pc_2 (by decide +kernel) hP.2.1 Fh2, pc_3 (by decide +kernel) hP.2.2.1 Fh2, pc_4 (by decide +kernel) hP.2.2.2.1 Fh2, pc_5 (by decide +kernel) hP.2.2.2.2.1 Fh2, p6, pc_7 (by decide +kernel) hP.2.2.2.2.2.2 Fh2⟩⟩, Fh2, fun y hy hy0 => ⟨fun t ht => absurd ht List.not_mem_nil, fun t ht => absurd ht List.not_mem_nil⟩⟩
        · refine ex_ilw oq_X12_measure_42 rfl ?_
          refine ex_ldcw oq_X12_measure_44 (m := (-9999999)) (by decide) (fun x20 hx20 => ?_)
          refine ex_ldcw oq_X12_measure_47 (m := 9999999) (by decide) (fun x21 hx21 => ?_)
          refine ex_cs oq_X12_measure_50 (by decide) (as := [cv_i lo, cv_i x20, cv_i x21]) (stk := []) rfl rfl rfl ⟨rfl, rfl⟩ (R := fun o => ∃ x : Int32, o = (some (cv_i x), h2) ∧ (x.toInt = 1 ∧ x20.toInt ≤ lo.toInt ∧ lo.toInt ≤ x21.toInt ∨ x.toInt = 0 ∧ ¬ (x20.toInt ≤ lo.toInt ∧ lo.toInt ≤ x21.toInt))) (sp_isIn Th2 lo x20 x21  (fun x hx => ⟨x, rfl, hx⟩)) (fun ox22 hox22 => ?_)
          obtain ⟨x22, rfl, hx22⟩ := hox22
          show cw_X _ _ _ _ _ [cv_i x22] h2
          refine ex_if0 oq_X12_measure_53 (t := 69) rfl rfl (fun (c23 : x22.toInt = 0) => ?_) (fun (c23 : ¬ (x22.toInt = 0)) => ?_)
          · refine ex_ic oq_X12_measure_69 (m := (-1)) (by decide) (fun x24 hx24 => ?_)
            have p6 : pp_6 h2 := by
              intro k hk
              have f1 : ri_at h2 136 k = ri_at h 136 k := (ri_ne wh2 (.inl (by decide)))
              have f2 : ri_at h2 137 k = ri_at h 137 k := (ri_ne wh2 (.inl (by decide)))
              rw [f1, f2]; exact hP.2.2.2.2.2.1 k hk
            exact ex_reti oq_X12_measure_70 rfl ⟨⟨x24, rfl, cw_top_ok _⟩, ⟨Th2, ⟨pc_1 (by decide +kernel) hP.1 Fh2, pc_2 (by decide +kernel) hP.2.1 Fh2, pc_3 (by decide +kernel) hP.2.2.1 Fh2, pc_4 (by decide +kernel) hP.2.2.2.1 Fh2, pc_5 (by decide +kernel) hP.2.2.2.2.1 Fh2, p6, pc_7 (by decide +kernel) hP.2.2.2.2.2.2 Fh2⟩⟩, Fh2, fun y hy hy0 => ⟨fun t ht => absurd ht List.not_mem_nil, fun t ht => absurd ht List.not_mem_nil⟩⟩
          · refine ex_ilw oq_X12_measure_56 rfl ?_
            refine ex_ilw oq_X12_measure_58 rfl ?_
            refine ex_ldcw oq_X12_measure_60 (m := 9999999) (by decide) (fun x25 hx25 => ?_)
            refine ex_cs oq_X12_measure_63 (by decide) (as := [cv_i hi, cv_i lo, cv_i x25]) (stk := []) rfl rfl rfl ⟨rfl, rfl⟩ (R := fun o => ∃ x : Int32, o = (some (cv_i x), h2) ∧ (x.toInt = 1 ∧ lo.toInt ≤ hi.toInt ∧ hi.toInt ≤ x25.toInt ∨ x.toInt = 0 ∧ ¬ (lo.toInt ≤ hi.toInt ∧ hi.toInt ≤ x25.toInt))) (sp_isIn Th2 hi lo x25  (fun x hx => ⟨x, rfl, hx⟩)) (fun ox26 hox26 => ?_)
            obtain ⟨x26, rfl, hx26⟩ := hox26
            show cw_X _ _ _ _ _ [cv_i x26] h2
            refine ex_if0 oq_X12_measure_66 (t := 71) rfl rfl (fun (c27 : ¬ x26.toInt = 0) => ?_) (fun (c27 : ¬ (¬ x26.toInt = 0)) => ?_)
            · refine ex_al oq_X12_measure_71 rfl ?_
              refine ex_gf oq_X12_measure_72 Th2 (k := 111) (d := 12) rfl rfl (fr_readGate Th2) ?_
              refine ex_al oq_X12_measure_75 rfl ?_
              obtain ⟨x28, ax28, rx28, lx28, ux28⟩ := fi_measures Th2
              refine ex_gf oq_X12_measure_76 Th2 (k := 111) (d := 12) rfl rfl ax28 ?_
              refine ex_il oq_X12_measure_79 rfl ?_
              refine ex_iw1 oq_X12_measure_80 Th2 (k := 136) (d := 75) (j := (ri_at h 111 52).toNat) rfl rfl (by omega) (by omega) ⟨(cw_i32 _).1, (cw_i32 _).2⟩ (fun h29 Th29 wh29 => ?_)
              have Fh29 : cw_Fr cw_Ds cw_sh kk_X12_measure.2.2.2.2.2.1 h h29 := cw_Fr_tr Fh2 (cw_Fr_wrr wh29 (k := 136) (d := 75) rfl rfl (by decide +kernel))
              have eh29_52 : ri_at h29 111 52 = ri_at h2 111 52 := ri_ne wh29 (.inl (by decide))
              refine ex_al oq_X12_measure_81 rfl ?_
              refine ex_gf oq_X12_measure_82 Th29 (k := 111) (d := 12) rfl rfl (fr_readWeek Th29) ?_
              refine ex_al oq_X12_measure_85 rfl ?_
              obtain ⟨x30, ax30, rx30, lx30, ux30⟩ := fi_measures Th29
              refine ex_gf oq_X12_measure_86 Th29 (k := 111) (d := 12) rfl rfl ax30 ?_
              refine ex_il oq_X12_measure_89 rfl ?_
              refine ex_iw1 oq_X12_measure_90 Th29 (k := 137) (d := 76) (j := (ri_at h 111 52).toNat) rfl rfl (by omega) (by omega) ⟨by omega, by omega⟩ (fun h31 Th31 wh31 => ?_)
              have Fh31 : cw_Fr cw_Ds cw_sh kk_X12_measure.2.2.2.2.2.1 h h31 := cw_Fr_tr Fh29 (cw_Fr_wrr wh31 (k := 137) (d := 76) rfl rfl (by decide +kernel))
              have eh31_52 : ri_at h31 111 52 = ri_at h29 111 52 := ri_ne wh31 (.inl (by decide))
              refine ex_al oq_X12_measure_91 rfl ?_
              refine ex_gf oq_X12_measure_92 Th31 (k := 111) (d := 12) rfl rfl (fr_readWhat Th31) ?_
              refine ex_al oq_X12_measure_95 rfl ?_
              obtain ⟨x32, ax32, rx32, lx32, ux32⟩ := fi_measures Th31
              refine ex_gf oq_X12_measure_96 Th31 (k := 111) (d := 12) rfl rfl ax32 ?_
              refine ex_il oq_X12_measure_99 rfl ?_
              refine ex_iw1 oq_X12_measure_100 Th31 (k := 138) (d := 77) (j := (ri_at h 111 52).toNat) rfl rfl (by omega) (by omega) ⟨by omega, by omega⟩ (fun h33 Th33 wh33 => ?_)
              have Fh33 : cw_Fr cw_Ds cw_sh kk_X12_measure.2.2.2.2.2.1 h h33 := cw_Fr_tr Fh31 (cw_Fr_wrr wh33 (k := 138) (d := 77) rfl rfl (by decide +kernel))
              have eh33_52 : ri_at h33 111 52 = ri_at h31 111 52 := ri_ne wh33 (.inl (by decide))
              refine ex_al oq_X12_measure_101 rfl ?_
              refine ex_gf oq_X12_measure_102 Th33 (k := 111) (d := 12) rfl rfl (fr_readLow Th33) ?_
              refine ex_al oq_X12_measure_105 rfl ?_
              obtain ⟨x34, ax34, rx34, lx34, ux34⟩ := fi_measures Th33
              refine ex_gf oq_X12_measure_106 Th33 (k := 111) (d := 12) rfl rfl ax34 ?_
              refine ex_ilw oq_X12_measure_109 rfl ?_
              refine ex_iw1 oq_X12_measure_111 Th33 (k := 139) (d := 78) (j := (ri_at h 111 52).toNat) rfl rfl (by omega) (by omega) ⟨(cw_i32 _).1, (cw_i32 _).2⟩ (fun h35 Th35 wh35 => ?_)
              have Fh35 : cw_Fr cw_Ds cw_sh kk_X12_measure.2.2.2.2.2.1 h h35 := cw_Fr_tr Fh33 (cw_Fr_wrr wh35 (k := 139) (d := 78) rfl rfl (by decide +kernel))
              have eh35_52 : ri_at h35 111 52 = ri_at h33 111 52 := ri_ne wh35 (.inl (by decide))
              refine ex_al oq_X12_measure_112 rfl ?_
              refine ex_gf oq_X12_measure_113 Th35 (k := 111) (d := 12) rfl rfl (fr_readHigh Th35) ?_
              refine ex_al oq_X12_measure_116 rfl ?_
              obtain ⟨x36, ax36, rx36, lx36, ux36⟩ := fi_measures Th35
              refine ex_gf oq_X12_measure_117 Th35 (k := 111) (d := 12) rfl rfl ax36 ?_
              refine ex_ilw oq_X12_measure_120 rfl ?_
              refine ex_iw1 oq_X12_measure_122 Th35 (k := 140) (d := 79) (j := (ri_at h 111 52).toNat) rfl rfl (by omega) (by omega) ⟨(cw_i32 _).1, (cw_i32 _).2⟩ (fun h37 Th37 wh37 => ?_)
              have Fh37 : cw_Fr cw_Ds cw_sh kk_X12_measure.2.2.2.2.2.1 h h37 := cw_Fr_tr Fh35 (cw_Fr_wrr wh37 (k := 140) (d := 79) rfl rfl (by decide +kernel))
              have eh37_52 : ri_at h37 111 52 = ri_at h35 111 52 := ri_ne wh37 (.inl (by decide))
              refine ex_al oq_X12_measure_123 rfl ?_
              refine ex_dup oq_X12_measure_124 rfl ?_
              obtain ⟨x38, ax38, rx38, lx38, ux38⟩ := fi_measures Th37
              refine ex_gf oq_X12_measure_125 Th37 (k := 111) (d := 12) rfl rfl ax38 ?_
              refine ex_ic oq_X12_measure_128 (m := 1) (by decide) (fun x39 hx39 => ?_)
              refine ex_add oq_X12_measure_129 (by omega) (fun x40 hx40 => ?_)
              refine ex_pfi oq_X12_measure_130 Th37 (k := 111) (d := 12) rfl rfl rfl (by omega) (by omega) (fun h41 Th41 wh41 => ?_)
              have Fh41 : cw_Fr cw_Ds cw_sh kk_X12_measure.2.2.2.2.2.1 h h41 := cw_Fr_tr Fh37 (cw_Fr_wrf wh41 (k := 111) (d := 12) rfl rfl (by decide +kernel))
              have eh41_52 : ri_at h41 111 52 = x40.toInt := ri_self wh41
              refine ex_al oq_X12_measure_133 rfl ?_
              obtain ⟨x42, ax42, rx42, lx42, ux42⟩ := fi_measures Th41
              refine ex_gf oq_X12_measure_134 Th41 (k := 111) (d := 12) rfl rfl ax42 ?_
              refine ex_ic oq_X12_measure_137 (m := 1) (by decide) (fun x43 hx43 => ?_)
              refine ex_sub oq_X12_measure_138 (by omega) (fun x44 hx44 => ?_)
              have p6 : pp_6 h41 := by
                intro k hk
                by_cases e : k = (ri_at h 111 52).toNat
                · subst e
                  have g1 : ri_at h41 136 (ri_at h 111 52).toNat = g.toInt := (((ri_ne wh41 (.inl (by decide))).trans ((ri_ne wh37 (.inl (by decide))).trans ((ri_ne wh35 (.inl (by decide))).trans ((ri_ne wh33 (.inl (by decide))).trans (ri_ne wh31 (.inl (by decide)))))))).trans (ri_self wh29)
                  have g2 : ri_at h41 137 (ri_at h 111 52).toNat = n.toInt := (((ri_ne wh41 (.inl (by decide))).trans ((ri_ne wh37 (.inl (by decide))).trans ((ri_ne wh35 (.inl (by decide))).trans (ri_ne wh33 (.inl (by decide))))))).trans (ri_self wh31)
                  rw [g1, g2]; intro q; omega
                · have f1 : ri_at h41 136 k = ri_at h 136 k := ((ri_ne wh41 (.inl (by decide))).trans ((ri_ne wh37 (.inl (by decide))).trans ((ri_ne wh35 (.inl (by decide))).trans ((ri_ne wh33 (.inl (by decide))).trans ((ri_ne wh31 (.inl (by decide))).trans ((ri_ne wh29 (.inr e)).trans (ri_ne wh2 (.inl (by decide)))))))))
                  have e : ¬ k = (ri_at h 111 52).toNat := by omega
                  have f2 : ri_at h41 137 k = ri_at h 137 k := ((ri_ne wh41 (.inl (by decide))).trans ((ri_ne wh37 (.inl (by decide))).trans ((ri_ne wh35 (.inl (by decide))).trans ((ri_ne wh33 (.inl (by decide))).trans ((ri_ne wh31 (.inr e)).trans ((ri_ne wh29 (.inl (by decide))).trans (ri_ne wh2 (.inl (by decide)))))))))
                  rw [f1, f2]; exact hP.2.2.2.2.2.1 k hk
              exact ex_reti oq_X12_measure_139 rfl ⟨⟨x44, rfl, cw_top_ok _⟩, ⟨Th41, ⟨pc_1 (by decide +kernel) hP.1 Fh41, pc_2 (by decide +kernel) hP.2.1 Fh41, pc_3 (by decide +kernel) hP.2.2.1 Fh41, pc_4 (by decide +kernel) hP.2.2.2.1 Fh41, pc_5 (by decide +kernel) hP.2.2.2.2.1 Fh41, p6, pc_7 (by decide +kernel) hP.2.2.2.2.2.2 Fh41⟩⟩, Fh41, fun y hy hy0 => ⟨fun t ht => absurd ht List.not_mem_nil, fun t ht => absurd ht List.not_mem_nil⟩⟩
            · refine ex_ic oq_X12_measure_69 (m := (-1)) (by decide) (fun x45 hx45 => ?_)
              have p6 : pp_6 h2 := by
                intro k hk
                have f1 : ri_at h2 136 k = ri_at h 136 k := (ri_ne wh2 (.inl (by decide)))
                have f2 : ri_at h2 137 k = ri_at h 137 k := (ri_ne wh2 (.inl (by decide)))
                rw [f1, f2]; exact hP.2.2.2.2.2.1 k hk
              exact ex_reti oq_X12_measure_70 rfl ⟨⟨x45, rfl, cw_top_ok _⟩, ⟨Th2, ⟨pc_1 (by decide +kernel) hP.1 Fh2, pc_2 (by decide +kernel) hP.2.1 Fh2, pc_3 (by decide +kernel) hP.2.2.1 Fh2, pc_4 (by decide +kernel) hP.2.2.2.1 Fh2, pc_5 (by decide +kernel) hP.2.2.2.2.1 Fh2, p6, pc_7 (by decide +kernel) hP.2.2.2.2.2.2 Fh2⟩⟩, Fh2, fun y hy hy0 => ⟨fun t ht => absurd ht List.not_mem_nil, fun t ht => absurd ht List.not_mem_nil⟩⟩
theorem oq_X12_strike_0 : cw_ho 239 0 (.aload_n 0) 1 0 0 0 := rfl
theorem oq_X12_strike_1 : cw_ho 239 1 (.iconst 0) 1 0 0 0 := rfl
theorem oq_X12_strike_2 : cw_ho 239 2 (.putfield 136) 3 12 2 0 := rfl
theorem oq_X12_strike_5 : cw_ho 239 5 (.aload_n 0) 1 0 0 0 := rfl
theorem oq_X12_strike_6 : cw_ho 239 6 (.getfield 243) 3 12 52 0 := rfl
theorem oq_X12_strike_9 : cw_ho 239 9 (.bipush 40) 2 0 0 0 := rfl
theorem oq_X12_strike_11 : cw_ho 239 11 (.if_icmp .eq 15) 3 0 0 0 := rfl
theorem oq_X12_strike_14 : cw_ho 239 14 (.iload_n 1) 1 0 0 0 := rfl
theorem oq_X12_strike_15 : cw_ho 239 15 (.ifCond .lt 11) 3 0 0 0 := rfl
theorem oq_X12_strike_18 : cw_ho 239 18 (.iload_n 1) 1 0 0 0 := rfl
theorem oq_X12_strike_19 : cw_ho 239 19 (.aload_n 0) 1 0 0 0 := rfl
theorem oq_X12_strike_20 : cw_ho 239 20 (.getfield 243) 3 12 52 0 := rfl
theorem oq_X12_strike_23 : cw_ho 239 23 (.if_icmp .lt 5) 3 0 0 0 := rfl
theorem oq_X12_strike_26 : cw_ho 239 26 (.iconst (-1)) 1 0 0 0 := rfl
theorem oq_X12_strike_27 : cw_ho 239 27 (.ireturn) 1 0 0 0 := rfl
theorem oq_X12_strike_28 : cw_ho 239 28 (.aload_n 0) 1 0 0 0 := rfl
theorem oq_X12_strike_29 : cw_ho 239 29 (.getfield 91) 3 12 54 4 := rfl
theorem oq_X12_strike_32 : cw_ho 239 32 (.aload_n 0) 1 0 0 0 := rfl
theorem oq_X12_strike_33 : cw_ho 239 33 (.getfield 243) 3 12 52 0 := rfl
theorem oq_X12_strike_36 : cw_ho 239 36 (.iconst (-1)) 1 0 0 0 := rfl
theorem oq_X12_strike_37 : cw_ho 239 37 (.iastore) 1 0 0 0 := rfl
theorem oq_X12_strike_38 : cw_ho 239 38 (.aload_n 0) 1 0 0 0 := rfl
theorem oq_X12_strike_39 : cw_ho 239 39 (.getfield 94) 3 12 55 4 := rfl
theorem oq_X12_strike_42 : cw_ho 239 42 (.aload_n 0) 1 0 0 0 := rfl
theorem oq_X12_strike_43 : cw_ho 239 43 (.getfield 243) 3 12 52 0 := rfl
theorem oq_X12_strike_46 : cw_ho 239 46 (.iload_n 1) 1 0 0 0 := rfl
theorem oq_X12_strike_47 : cw_ho 239 47 (.iastore) 1 0 0 0 := rfl
theorem oq_X12_strike_48 : cw_ho 239 48 (.aload_n 0) 1 0 0 0 := rfl
theorem oq_X12_strike_49 : cw_ho 239 49 (.dup) 1 0 0 0 := rfl
theorem oq_X12_strike_50 : cw_ho 239 50 (.getfield 243) 3 12 52 0 := rfl
theorem oq_X12_strike_53 : cw_ho 239 53 (.iconst 1) 1 0 0 0 := rfl
theorem oq_X12_strike_54 : cw_ho 239 54 (.iadd) 1 0 0 0 := rfl
theorem oq_X12_strike_55 : cw_ho 239 55 (.putfield 243) 3 12 52 0 := rfl
theorem oq_X12_strike_58 : cw_ho 239 58 (.aload_n 0) 1 0 0 0 := rfl
theorem oq_X12_strike_59 : cw_ho 239 59 (.getfield 243) 3 12 52 0 := rfl
theorem oq_X12_strike_62 : cw_ho 239 62 (.iconst 1) 1 0 0 0 := rfl
theorem oq_X12_strike_63 : cw_ho 239 63 (.isub) 1 0 0 0 := rfl
theorem oq_X12_strike_64 : cw_ho 239 64 (.ireturn) 1 0 0 0 := rfl
theorem hk_X12_strike : cw_Holds fk_all mt_all cw_Ds cw_sh G (cw_PP G) kk_X12_strike := by
  refine cw_XH fun X h av hX hT hP hg hfp => ?_
  match av, hg with
  | [v0, v1], ⟨h0, ⟨n, e1, rn⟩, _⟩ =>
  obtain rfl : v0 = cv_r 111 := by
    rcases h0 with ⟨-, k, rfl, hk⟩ | ⟨j, hj, -⟩
    · rw [ri_uniq (d := 12) (k := 111) (by decide +kernel) k hk]
    · omega
  subst e1
  have Fh : cw_Fr cw_Ds cw_sh kk_X12_strike.2.2.2.2.2.1 h h := cw_Fr_refl
  obtain ⟨_, _, rG0, lG0, uG0⟩ := fi_gates hT
  have hG0 := fr_G hT
  refine ex_al oq_X12_strike_0 rfl ?_
  refine ex_ic oq_X12_strike_1 (m := 0) (by decide) (fun x1 hx1 => ?_)
  refine ex_pfi oq_X12_strike_2 hT (k := 111) (d := 12) rfl rfl rfl (cw_i32 _).1 (cw_i32 _).2 (fun h2 Th2 wh2 => ?_)
  have Fh2 : cw_Fr cw_Ds cw_sh kk_X12_strike.2.2.2.2.2.1 h h2 := cw_Fr_tr Fh (cw_Fr_wrf wh2 (k := 111) (d := 12) rfl rfl (by decide +kernel))
  have eh2_52 : ri_at h2 111 52 = ri_at h 111 52 := ri_ne wh2 (by decide)
  refine ex_al oq_X12_strike_5 rfl ?_
  obtain ⟨x3, ax3, rx3, lx3, ux3⟩ := fi_measures Th2
  refine ex_gf oq_X12_strike_6 Th2 (k := 111) (d := 12) rfl rfl ax3 ?_
  refine ex_bi oq_X12_strike_9 (m := 40) (by decide) (fun x4 hx4 => ?_)
  refine ex_if oq_X12_strike_11 (t := 26) rfl rfl (fun (c5 : x3.toInt = x4.toInt) => ?_) (fun (c5 : ¬ (x3.toInt = x4.toInt)) => ?_)
  · refine ex_ic oq_X12_strike_26 (m := (-1)) (by decide) (fun x6 hx6 => ?_)
    have p6 : pp_6 h2 := by
      intro k hk
      have f1 : ri_at h2 136 k = ri_at h 136 k := (ri_ne wh2 (.inl (by decide)))
      have f2 : ri_at h2 137 k = ri_at h 137 k := (ri_ne wh2 (.inl (by decide)))
      rw [f1, f2]; exact hP.2.2.2.2.2.1 k hk
    exact ex_reti oq_X12_strike_27 rfl ⟨⟨x6, rfl, cw_top_ok _⟩, ⟨Th2, ⟨pc_1 (by decide +kernel) hP.1 Fh2, pc_2 (by decide +kernel) hP.2.1 Fh2, pc_3 (by decide +kernel) hP.2.2.1 Fh2, pc_4 (by decide +kernel) hP.2.2.2.1 Fh2, pc_5 (by decide +kernel) hP.2.2.2.2.1 Fh2, p6, pc_7 (by decide +kernel) hP.2.2.2.2.2.2 Fh2⟩⟩, Fh2, fun y hy hy0 => ⟨fun t ht => absurd ht List.not_mem_nil, fun t ht => absurd ht List.not_mem_nil⟩⟩
  · refine ex_il oq_X12_strike_14 rfl ?_
    refine ex_if0 oq_X12_strike_15 (t := 26) rfl rfl (fun (c7 : n.toInt < 0) => ?_) (fun (c7 : ¬ (n.toInt < 0)) => ?_)
    · refine ex_ic oq_X12_strike_26 (m := (-1)) (by decide) (fun x8 hx8 => ?_)
      have p6 : pp_6 h2 := by
        intro k hk
        have f1 : ri_at h2 136 k = ri_at h 136 k := (ri_ne wh2 (.inl (by decide)))
        have f2 : ri_at h2 137 k = ri_at h 137 k := (ri_ne wh2 (.inl (by decide)))
        rw [f1, f2]; exact hP.2.2.2.2.2.1 k hk
      exact ex_reti oq_X12_strike_27 rfl ⟨⟨x8, rfl, cw_top_ok _⟩, ⟨Th2, ⟨pc_1 (by decide +kernel) hP.1 Fh2, pc_2 (by decide +kernel) hP.2.1 Fh2, pc_3 (by decide +kernel) hP.2.2.1 Fh2, pc_4 (by decide +kernel) hP.2.2.2.1 Fh2, pc_5 (by decide +kernel) hP.2.2.2.2.1 Fh2, p6, pc_7 (by decide +kernel) hP.2.2.2.2.2.2 Fh2⟩⟩, Fh2, fun y hy hy0 => ⟨fun t ht => absurd ht List.not_mem_nil, fun t ht => absurd ht List.not_mem_nil⟩⟩
    · refine ex_il oq_X12_strike_18 rfl ?_
      refine ex_al oq_X12_strike_19 rfl ?_
      obtain ⟨x9, ax9, rx9, lx9, ux9⟩ := fi_measures Th2
      refine ex_gf oq_X12_strike_20 Th2 (k := 111) (d := 12) rfl rfl ax9 ?_
      refine ex_if oq_X12_strike_23 (t := 28) rfl rfl (fun (c10 : n.toInt < x9.toInt) => ?_) (fun (c10 : ¬ (n.toInt < x9.toInt)) => ?_)
      · refine ex_al oq_X12_strike_28 rfl ?_
        refine ex_gf oq_X12_strike_29 Th2 (k := 111) (d := 12) rfl rfl (fr_readGate Th2) ?_
        refine ex_al oq_X12_strike_32 rfl ?_
        obtain ⟨x11, ax11, rx11, lx11, ux11⟩ := fi_measures Th2
        refine ex_gf oq_X12_strike_33 Th2 (k := 111) (d := 12) rfl rfl ax11 ?_
        refine ex_ic oq_X12_strike_36 (m := (-1)) (by decide) (fun x12 hx12 => ?_)
        refine ex_iw1 oq_X12_strike_37 Th2 (k := 136) (d := 75) (j := (ri_at h 111 52).toNat) rfl rfl (by omega) (by omega) ⟨(cw_i32 _).1, (cw_i32 _).2⟩ (fun h13 Th13 wh13 => ?_)
        have Fh13 : cw_Fr cw_Ds cw_sh kk_X12_strike.2.2.2.2.2.1 h h13 := cw_Fr_tr Fh2 (cw_Fr_wrr wh13 (k := 136) (d := 75) rfl rfl (by decide +kernel))
        have eh13_52 : ri_at h13 111 52 = ri_at h2 111 52 := ri_ne wh13 (.inl (by decide))
        refine ex_al oq_X12_strike_38 rfl ?_
        refine ex_gf oq_X12_strike_39 Th13 (k := 111) (d := 12) rfl rfl (fr_readWeek Th13) ?_
        refine ex_al oq_X12_strike_42 rfl ?_
        obtain ⟨x14, ax14, rx14, lx14, ux14⟩ := fi_measures Th13
        refine ex_gf oq_X12_strike_43 Th13 (k := 111) (d := 12) rfl rfl ax14 ?_
        refine ex_il oq_X12_strike_46 rfl ?_
        refine ex_iw1 oq_X12_strike_47 Th13 (k := 137) (d := 76) (j := (ri_at h 111 52).toNat) rfl rfl (by omega) (by omega) ⟨by omega, by omega⟩ (fun h15 Th15 wh15 => ?_)
        have Fh15 : cw_Fr cw_Ds cw_sh kk_X12_strike.2.2.2.2.2.1 h h15 := cw_Fr_tr Fh13 (cw_Fr_wrr wh15 (k := 137) (d := 76) rfl rfl (by decide +kernel))
        have eh15_52 : ri_at h15 111 52 = ri_at h13 111 52 := ri_ne wh15 (.inl (by decide))
        refine ex_al oq_X12_strike_48 rfl ?_
        refine ex_dup oq_X12_strike_49 rfl ?_
        obtain ⟨x16, ax16, rx16, lx16, ux16⟩ := fi_measures Th15
        refine ex_gf oq_X12_strike_50 Th15 (k := 111) (d := 12) rfl rfl ax16 ?_
        refine ex_ic oq_X12_strike_53 (m := 1) (by decide) (fun x17 hx17 => ?_)
        refine ex_add oq_X12_strike_54 (by omega) (fun x18 hx18 => ?_)
        refine ex_pfi oq_X12_strike_55 Th15 (k := 111) (d := 12) rfl rfl rfl (by omega) (by omega) (fun h19 Th19 wh19 => ?_)
        have Fh19 : cw_Fr cw_Ds cw_sh kk_X12_strike.2.2.2.2.2.1 h h19 := cw_Fr_tr Fh15 (cw_Fr_wrf wh19 (k := 111) (d := 12) rfl rfl (by decide +kernel))
        have eh19_52 : ri_at h19 111 52 = x18.toInt := ri_self wh19
        refine ex_al oq_X12_strike_58 rfl ?_
        obtain ⟨x20, ax20, rx20, lx20, ux20⟩ := fi_measures Th19
        refine ex_gf oq_X12_strike_59 Th19 (k := 111) (d := 12) rfl rfl ax20 ?_
        refine ex_ic oq_X12_strike_62 (m := 1) (by decide) (fun x21 hx21 => ?_)
        refine ex_sub oq_X12_strike_63 (by omega) (fun x22 hx22 => ?_)
        have p6 : pp_6 h19 := by
          intro k hk
          by_cases e : k = (ri_at h 111 52).toNat
          · subst e
            have g1 : ri_at h19 136 (ri_at h 111 52).toNat = x12.toInt := (((ri_ne wh19 (.inl (by decide))).trans (ri_ne wh15 (.inl (by decide))))).trans (ri_self wh13)
            have g2 : ri_at h19 137 (ri_at h 111 52).toNat = n.toInt := ((ri_ne wh19 (.inl (by decide)))).trans (ri_self wh15)
            rw [g1, g2]; intro q; omega
          · have f1 : ri_at h19 136 k = ri_at h 136 k := ((ri_ne wh19 (.inl (by decide))).trans ((ri_ne wh15 (.inl (by decide))).trans ((ri_ne wh13 (.inr e)).trans (ri_ne wh2 (.inl (by decide))))))
            have e : ¬ k = (ri_at h 111 52).toNat := by omega
            have f2 : ri_at h19 137 k = ri_at h 137 k := ((ri_ne wh19 (.inl (by decide))).trans ((ri_ne wh15 (.inr e)).trans ((ri_ne wh13 (.inl (by decide))).trans (ri_ne wh2 (.inl (by decide))))))
            rw [f1, f2]; exact hP.2.2.2.2.2.1 k hk
        exact ex_reti oq_X12_strike_64 rfl ⟨⟨x22, rfl, cw_top_ok _⟩, ⟨Th19, ⟨pc_1 (by decide +kernel) hP.1 Fh19, pc_2 (by decide +kernel) hP.2.1 Fh19, pc_3 (by decide +kernel) hP.2.2.1 Fh19, pc_4 (by decide +kernel) hP.2.2.2.1 Fh19, pc_5 (by decide +kernel) hP.2.2.2.2.1 Fh19, p6, pc_7 (by decide +kernel) hP.2.2.2.2.2.2 Fh19⟩⟩, Fh19, fun y hy hy0 => ⟨fun t ht => absurd ht List.not_mem_nil, fun t ht => absurd ht List.not_mem_nil⟩⟩
      · refine ex_ic oq_X12_strike_26 (m := (-1)) (by decide) (fun x23 hx23 => ?_)
        have p6 : pp_6 h2 := by
          intro k hk
          have f1 : ri_at h2 136 k = ri_at h 136 k := (ri_ne wh2 (.inl (by decide)))
          have f2 : ri_at h2 137 k = ri_at h 137 k := (ri_ne wh2 (.inl (by decide)))
          rw [f1, f2]; exact hP.2.2.2.2.2.1 k hk
        exact ex_reti oq_X12_strike_27 rfl ⟨⟨x23, rfl, cw_top_ok _⟩, ⟨Th2, ⟨pc_1 (by decide +kernel) hP.1 Fh2, pc_2 (by decide +kernel) hP.2.1 Fh2, pc_3 (by decide +kernel) hP.2.2.1 Fh2, pc_4 (by decide +kernel) hP.2.2.2.1 Fh2, pc_5 (by decide +kernel) hP.2.2.2.2.1 Fh2, p6, pc_7 (by decide +kernel) hP.2.2.2.2.2.2 Fh2⟩⟩, Fh2, fun y hy hy0 => ⟨fun t ht => absurd ht List.not_mem_nil, fun t ht => absurd ht List.not_mem_nil⟩⟩
theorem oq_X12_weeks_0 : cw_ho 221 0 (.aload_n 0) 1 0 0 0 := rfl
theorem oq_X12_weeks_1 : cw_ho 221 1 (.iconst 0) 1 0 0 0 := rfl
theorem oq_X12_weeks_2 : cw_ho 221 2 (.putfield 136) 3 12 2 0 := rfl
theorem oq_X12_weeks_5 : cw_ho 221 5 (.iload_n 1) 1 0 0 0 := rfl
theorem oq_X12_weeks_6 : cw_ho 221 6 (.iconst 0) 1 0 0 0 := rfl
theorem oq_X12_weeks_7 : cw_ho 221 7 (.sipush 520) 3 0 0 0 := rfl
theorem oq_X12_weeks_10 : cw_ho 221 10 (.invokestatic 180) 3 156 3 0 := rfl
theorem oq_X12_weeks_13 : cw_ho 221 13 (.ifCond .eq 15) 3 0 0 0 := rfl
theorem oq_X12_weeks_16 : cw_ho 221 16 (.aload_n 0) 1 0 0 0 := rfl
theorem oq_X12_weeks_17 : cw_ho 221 17 (.getfield 240) 3 12 43 0 := rfl
theorem oq_X12_weeks_20 : cw_ho 221 20 (.iload_n 1) 1 0 0 0 := rfl
theorem oq_X12_weeks_21 : cw_ho 221 21 (.iadd) 1 0 0 0 := rfl
theorem oq_X12_weeks_22 : cw_ho 221 22 (.sipush 2000) 3 0 0 0 := rfl
theorem oq_X12_weeks_25 : cw_ho 221 25 (.if_icmp .le 5) 3 0 0 0 := rfl
theorem oq_X12_weeks_28 : cw_ho 221 28 (.iconst (-1)) 1 0 0 0 := rfl
theorem oq_X12_weeks_29 : cw_ho 221 29 (.ireturn) 1 0 0 0 := rfl
theorem oq_X12_weeks_30 : cw_ho 221 30 (.iconst 0) 1 0 0 0 := rfl
theorem oq_X12_weeks_31 : cw_ho 221 31 (.istore_n 2) 1 0 0 0 := rfl
theorem oq_X12_weeks_32 : cw_ho 221 32 (.iload_n 2) 1 0 0 0 := rfl
theorem oq_X12_weeks_33 : cw_ho 221 33 (.aload_n 0) 1 0 0 0 := rfl
theorem oq_X12_weeks_34 : cw_ho 221 34 (.getfield 216) 3 12 12 0 := rfl
theorem oq_X12_weeks_37 : cw_ho 221 37 (.if_icmp .ge 36) 3 0 0 0 := rfl
theorem oq_X12_weeks_40 : cw_ho 221 40 (.aload_n 0) 1 0 0 0 := rfl
theorem oq_X12_weeks_41 : cw_ho 221 41 (.iload_n 2) 1 0 0 0 := rfl
theorem oq_X12_weeks_42 : cw_ho 221 42 (.invokevirtual 413) 3 202 1 12 := rfl
theorem oq_X12_weeks_45 : cw_ho 221 45 (.aload_n 0) 1 0 0 0 := rfl
theorem oq_X12_weeks_46 : cw_ho 221 46 (.iload_n 2) 1 0 0 0 := rfl
theorem oq_X12_weeks_47 : cw_ho 221 47 (.iload_n 1) 1 0 0 0 := rfl
theorem oq_X12_weeks_48 : cw_ho 221 48 (.invokevirtual 416) 3 215 2 12 := rfl
theorem oq_X12_weeks_51 : cw_ho 221 51 (.aload_n 0) 1 0 0 0 := rfl
theorem oq_X12_weeks_52 : cw_ho 221 52 (.getfield 69) 3 12 44 4 := rfl
theorem oq_X12_weeks_55 : cw_ho 221 55 (.bipush 16) 2 0 0 0 := rfl
theorem oq_X12_weeks_57 : cw_ho 221 57 (.iload_n 2) 1 0 0 0 := rfl
theorem oq_X12_weeks_58 : cw_ho 221 58 (.imul) 1 0 0 0 := rfl
theorem oq_X12_weeks_59 : cw_ho 221 59 (.aload_n 0) 1 0 0 0 := rfl
theorem oq_X12_weeks_60 : cw_ho 221 60 (.getfield 72) 3 12 45 4 := rfl
theorem oq_X12_weeks_63 : cw_ho 221 63 (.iconst 0) 1 0 0 0 := rfl
theorem oq_X12_weeks_64 : cw_ho 221 64 (.invokestatic 236) 3 200 4 0 := rfl
theorem oq_X12_weeks_67 : cw_ho 221 67 (.iinc 2 1) 3 0 0 0 := rfl
theorem oq_X12_weeks_70 : cw_ho 221 70 (.goto (-38)) 3 0 0 0 := rfl
theorem oq_X12_weeks_73 : cw_ho 221 73 (.aload_n 0) 1 0 0 0 := rfl
theorem oq_X12_weeks_74 : cw_ho 221 74 (.dup) 1 0 0 0 := rfl
theorem oq_X12_weeks_75 : cw_ho 221 75 (.getfield 240) 3 12 43 0 := rfl
theorem oq_X12_weeks_78 : cw_ho 221 78 (.iload_n 1) 1 0 0 0 := rfl
theorem oq_X12_weeks_79 : cw_ho 221 79 (.iadd) 1 0 0 0 := rfl
theorem oq_X12_weeks_80 : cw_ho 221 80 (.putfield 240) 3 12 43 0 := rfl
theorem oq_X12_weeks_83 : cw_ho 221 83 (.aload_n 0) 1 0 0 0 := rfl
theorem oq_X12_weeks_84 : cw_ho 221 84 (.getfield 240) 3 12 43 0 := rfl
theorem oq_X12_weeks_87 : cw_ho 221 87 (.ireturn) 1 0 0 0 := rfl
theorem wk_32 {h0 : cv_H} (hX : cw_Xok X) (hlo : cw_Holds fk_all mt_all cw_Ds cw_sh G (cw_PP G) kk_X12_loads) (hgo : cw_Holds fk_all mt_all cw_Ds cw_sh G (cw_PP G) kk_X12_goesOn) (hla : cw_Holds fk_all mt_all cw_Ds cw_sh G (cw_PP G) kk_X12_lays_1) (hP0 : cw_PP G h0) (n : Int32) (n0 : 0 ≤ n.toInt) (n1 : n.toInt ≤ 520) (hfin : ∀ (x : Int32) h, cw_T G h → cw_Fr cw_Ds cw_sh kk_X12_weeks.2.2.2.2.2.1 h0 h → Q (some (cv_i x), h)) : ∀ (N : Nat) (g : Int32) (h : cv_H), cw_T G h → cw_Fr cw_Ds cw_sh kk_X12_weeks.2.2.2.2.2.1 h0 h → ∀ L : cv_L, cv_get L 0 = some (cv_r 111) → cv_get L 1 = some (cv_i n) → cv_get L 2 = some (cv_i g) → 0 ≤ g.toInt ∧ g.toInt ≤ 4 → ri_at h 111 43 + n.toInt ≤ 2000 → (4 - g.toInt).toNat ≤ N → cw_X X 221 Q 32 L [] h := by
  intro N
  induction N with
  | zero =>
    intro g h Th Fh L q0 q1 q2 g0 w0 hN
    have hG := fr_G Th
    refine ex_il oq_X12_weeks_32 q2 ?_
    refine ex_al oq_X12_weeks_33 q0 ?_
    obtain ⟨x1, ax1, rx1, lx1, ux1⟩ := fi_gates Th
    refine ex_gf oq_X12_weeks_34 Th (k := 111) (d := 12) rfl rfl ax1 ?_
    refine ex_if oq_X12_weeks_37 (t := 73) rfl rfl (fun (c2 : x1.toInt ≤ g.toInt) => ?_) (fun (c2 : ¬ (x1.toInt ≤ g.toInt)) => ?_)
    · refine ex_al oq_X12_weeks_73 q0 ?_
      refine ex_dup oq_X12_weeks_74 rfl ?_
      obtain ⟨x3, ax3, rx3, lx3, ux3⟩ := fi_week Th
      refine ex_gf oq_X12_weeks_75 Th (k := 111) (d := 12) rfl rfl ax3 ?_
      refine ex_il oq_X12_weeks_78 q1 ?_
      refine ex_add oq_X12_weeks_79 (by omega) (fun x4 hx4 => ?_)
      refine ex_pfi oq_X12_weeks_80 Th (k := 111) (d := 12) rfl rfl rfl (by omega) (by omega) (fun h5 Th5 wh5 => ?_)
      have Fh5 : cw_Fr cw_Ds cw_sh kk_X12_weeks.2.2.2.2.2.1 h0 h5 := cw_Fr_tr Fh (cw_Fr_wrf wh5 (k := 111) (d := 12) rfl rfl (by decide +kernel))
      have eh5_43 : ri_at h5 111 43 = x4.toInt := ri_self wh5
      refine ex_al oq_X12_weeks_83 q0 ?_
      obtain ⟨x6, ax6, rx6, lx6, ux6⟩ := fi_week Th5
      refine ex_gf oq_X12_weeks_84 Th5 (k := 111) (d := 12) rfl rfl ax6 ?_
      exact ex_reti oq_X12_weeks_87 rfl (hfin x6 h5 Th5 Fh5)
    · refine ex_al oq_X12_weeks_40 q0 ?_
      refine ex_il oq_X12_weeks_41 q2 ?_
      have Ph : cw_PP G h := pp_fr0 (by decide +kernel) hP0 Fh
      refine ex_cv oq_X12_weeks_42 (by decide) Th (k := 111) (d := 12) (as := [cv_i g]) (stk := []) rfl rfl rfl rfl rfl rfl ⟨rfl, rfl⟩ (cw_HX hlo rfl (cw_Xok_no2 hX) ⟨Th, Ph⟩ ⟨.inl ⟨by decide, 111, rfl, rfl⟩, ⟨_, rfl, by show (0 : Int) ≤ _; omega, by show _ ≤ (3 : Int); omega, cw_tg0⟩, trivial⟩ (fun t ht => absurd ht List.not_mem_nil)) (fun ox8 hox8 => ?_)
      obtain ⟨h7, rfl, Th7, Ph7, Ch7⟩ := po_non hox8 rfl
      show cw_X _ _ _ _ _ [] h7
      have Fh7 : cw_Fr cw_Ds cw_sh kk_X12_weeks.2.2.2.2.2.1 h0 h7 := cw_Fr_tr Fh (cw_Fr_mono (by decide +kernel) Ch7)
      have eh7_43 : ri_at h7 111 43 = ri_at h 111 43 := ri_frf Ch7 (d := 12) rfl rfl (by decide +kernel)
      refine ex_al oq_X12_weeks_45 q0 ?_
      refine ex_il oq_X12_weeks_46 q2 ?_
      refine ex_il oq_X12_weeks_47 q1 ?_
      have Ph7 : cw_PP G h7 := pp_fr0 (by decide +kernel) hP0 Fh7
      refine ex_cv oq_X12_weeks_48 (by decide) Th7 (k := 111) (d := 12) (as := [cv_i g, cv_i n]) (stk := []) rfl rfl rfl rfl rfl rfl ⟨rfl, rfl⟩ (cw_HX hgo rfl (cw_Xok_no2 hX) ⟨Th7, Ph7⟩ ⟨.inl ⟨by decide, 111, rfl, rfl⟩, ⟨_, rfl, by show (0 : Int) ≤ _; omega, by show _ ≤ (3 : Int); omega, cw_tg2 (by omega) (by omega)⟩, ⟨_, rfl, by show (0 : Int) ≤ _; omega, by show _ ≤ (520 : Int); omega, cw_tg0⟩, trivial⟩ (fun t ht => absurd ht List.not_mem_nil)) (fun ox10 hox10 => ?_)
      obtain ⟨h9, rfl, Th9, Ph9, Ch9⟩ := po_non hox10 rfl
      show cw_X _ _ _ _ _ [] h9
      have Fh9 : cw_Fr cw_Ds cw_sh kk_X12_weeks.2.2.2.2.2.1 h0 h9 := cw_Fr_tr Fh7 (cw_Fr_mono (by decide +kernel) Ch9)
      have eh9_43 : ri_at h9 111 43 = ri_at h7 111 43 := ri_frf Ch9 (d := 12) rfl rfl (by decide +kernel)
      refine ex_al oq_X12_weeks_51 q0 ?_
      refine ex_gf oq_X12_weeks_52 Th9 (k := 111) (d := 12) rfl rfl (fr_state Th9) ?_
      refine ex_bi oq_X12_weeks_55 (m := 16) (by decide) (fun x11 hx11 => ?_)
      refine ex_il oq_X12_weeks_57 q2 ?_
      refine ex_mul oq_X12_weeks_58 (m := 16 * g.toInt) (by rw [hx11]) (by omega) (fun x12 hx12 => ?_)
      refine ex_al oq_X12_weeks_59 q0 ?_
      refine ex_gf oq_X12_weeks_60 Th9 (k := 111) (d := 12) rfl rfl (fr_now Th9) ?_
      refine ex_ic oq_X12_weeks_63 (m := 0) (by decide) (fun x13 hx13 => ?_)
      have Ph9 : cw_PP G h9 := pp_fr0 (by decide +kernel) hP0 Fh9
      refine ex_cs oq_X12_weeks_64 (by decide) (as := [cv_r 130, cv_i x12, cv_r 131, cv_i x13]) (stk := []) rfl rfl rfl ⟨rfl, rfl⟩ (cw_HX hla rfl (cw_Xok_no2 hX) ⟨Th9, Ph9⟩ ⟨.inl ⟨by decide, 130, rfl, rfl⟩, ⟨_, rfl, by show (0 : Int) ≤ _; omega, by show _ ≤ (48 : Int); omega, cw_tg0⟩, .inl ⟨by decide, 131, rfl, rfl⟩, ⟨_, rfl, by show (0 : Int) ≤ _; omega, by show _ ≤ (0 : Int); omega, cw_tg0⟩, trivial⟩ (fun t ht => absurd ht List.not_mem_nil)) (fun ox15 hox15 => ?_)
      obtain ⟨h14, rfl, Th14, Ph14, Ch14⟩ := po_non hox15 rfl
      show cw_X _ _ _ _ _ [] h14
      have Fh14 : cw_Fr cw_Ds cw_sh kk_X12_weeks.2.2.2.2.2.1 h0 h14 := cw_Fr_tr Fh9 (cw_Fr_mono (by decide +kernel) Ch14)
      have eh14_43 : ri_at h14 111 43 = ri_at h9 111 43 := ri_frf Ch14 (d := 12) rfl rfl (by decide +kernel)
      refine ex_incA oq_X12_weeks_67 (v := g) (m := 1) q2 (by decide) (by omega) (fun L17 x16 hx16 gL17_2 kL17 => ?_)
      have gL17_0 : cv_get L17 0 = some (cv_r 111) := kL17 0 _ (by decide) (fun q => absurd q (by decide)) q0
      have gL17_1 : cv_get L17 1 = some (cv_i n) := kL17 1 _ (by decide) (fun _ => rfl) q1
      refine ex_go oq_X12_weeks_70 (t := 32) rfl rfl ?_
      exfalso; omega -- x16 h14 Th14 Fh14 L17 gL17_0 gL17_1 gL17_2 (by omega) (by omega) (by omega)
  | succ N ih =>
    intro g h Th Fh L q0 q1 q2 g0 w0 hN
    have hG := fr_G Th
    refine ex_il oq_X12_weeks_32 q2 ?_
    refine ex_al oq_X12_weeks_33 q0 ?_
    obtain ⟨x1, ax1, rx1, lx1, ux1⟩ := fi_gates Th
    refine ex_gf oq_X12_weeks_34 Th (k := 111) (d := 12) rfl rfl ax1 ?_
    refine ex_if oq_X12_weeks_37 (t := 73) rfl rfl (fun (c2 : x1.toInt ≤ g.toInt) => ?_) (fun (c2 : ¬ (x1.toInt ≤ g.toInt)) => ?_)
    · refine ex_al oq_X12_weeks_73 q0 ?_
      refine ex_dup oq_X12_weeks_74 rfl ?_
      obtain ⟨x3, ax3, rx3, lx3, ux3⟩ := fi_week Th
      refine ex_gf oq_X12_weeks_75 Th (k := 111) (d := 12) rfl rfl ax3 ?_
      refine ex_il oq_X12_weeks_78 q1 ?_
      refine ex_add oq_X12_weeks_79 (by omega) (fun x4 hx4 => ?_)
      refine ex_pfi oq_X12_weeks_80 Th (k := 111) (d := 12) rfl rfl rfl (by omega) (by omega) (fun h5 Th5 wh5 => ?_)
      have Fh5 : cw_Fr cw_Ds cw_sh kk_X12_weeks.2.2.2.2.2.1 h0 h5 := cw_Fr_tr Fh (cw_Fr_wrf wh5 (k := 111) (d := 12) rfl rfl (by decide +kernel))
      have eh5_43 : ri_at h5 111 43 = x4.toInt := ri_self wh5
      refine ex_al oq_X12_weeks_83 q0 ?_
      obtain ⟨x6, ax6, rx6, lx6, ux6⟩ := fi_week Th5
      refine ex_gf oq_X12_weeks_84 Th5 (k := 111) (d := 12) rfl rfl ax6 ?_
      exact ex_reti oq_X12_weeks_87 rfl (hfin x6 h5 Th5 Fh5)
    · refine ex_al oq_X12_weeks_40 q0 ?_
      refine ex_il oq_X12_weeks_41 q2 ?_
      have Ph : cw_PP G h := pp_fr0 (by decide +kernel) hP0 Fh
      refine ex_cv oq_X12_weeks_42 (by decide) Th (k := 111) (d := 12) (as := [cv_i g]) (stk := []) rfl rfl rfl rfl rfl rfl ⟨rfl, rfl⟩ (cw_HX hlo rfl (cw_Xok_no2 hX) ⟨Th, Ph⟩ ⟨.inl ⟨by decide, 111, rfl, rfl⟩, ⟨_, rfl, by show (0 : Int) ≤ _; omega, by show _ ≤ (3 : Int); omega, cw_tg0⟩, trivial⟩ (fun t ht => absurd ht List.not_mem_nil)) (fun ox8 hox8 => ?_)
      obtain ⟨h7, rfl, Th7, Ph7, Ch7⟩ := po_non hox8 rfl
      show cw_X _ _ _ _ _ [] h7
      have Fh7 : cw_Fr cw_Ds cw_sh kk_X12_weeks.2.2.2.2.2.1 h0 h7 := cw_Fr_tr Fh (cw_Fr_mono (by decide +kernel) Ch7)
      have eh7_43 : ri_at h7 111 43 = ri_at h 111 43 := ri_frf Ch7 (d := 12) rfl rfl (by decide +kernel)
      refine ex_al oq_X12_weeks_45 q0 ?_
      refine ex_il oq_X12_weeks_46 q2 ?_
      refine ex_il oq_X12_weeks_47 q1 ?_
      have Ph7 : cw_PP G h7 := pp_fr0 (by decide +kernel) hP0 Fh7
      refine ex_cv oq_X12_weeks_48 (by decide) Th7 (k := 111) (d := 12) (as := [cv_i g, cv_i n]) (stk := []) rfl rfl rfl rfl rfl rfl ⟨rfl, rfl⟩ (cw_HX hgo rfl (cw_Xok_no2 hX) ⟨Th7, Ph7⟩ ⟨.inl ⟨by decide, 111, rfl, rfl⟩, ⟨_, rfl, by show (0 : Int) ≤ _; omega, by show _ ≤ (3 : Int); omega, cw_tg2 (by omega) (by omega)⟩, ⟨_, rfl, by show (0 : Int) ≤ _; omega, by show _ ≤ (520 : Int); omega, cw_tg0⟩, trivial⟩ (fun t ht => absurd ht List.not_mem_nil)) (fun ox10 hox10 => ?_)
      obtain ⟨h9, rfl, Th9, Ph9, Ch9⟩ := po_non hox10 rfl
      show cw_X _ _ _ _ _ [] h9
      have Fh9 : cw_Fr cw_Ds cw_sh kk_X12_weeks.2.2.2.2.2.1 h0 h9 := cw_Fr_tr Fh7 (cw_Fr_mono (by decide +kernel) Ch9)
      have eh9_43 : ri_at h9 111 43 = ri_at h7 111 43 := ri_frf Ch9 (d := 12) rfl rfl (by decide +kernel)
      refine ex_al oq_X12_weeks_51 q0 ?_
      refine ex_gf oq_X12_weeks_52 Th9 (k := 111) (d := 12) rfl rfl (fr_state Th9) ?_
      refine ex_bi oq_X12_weeks_55 (m := 16) (by decide) (fun x11 hx11 => ?_)
      refine ex_il oq_X12_weeks_57 q2 ?_
      refine ex_mul oq_X12_weeks_58 (m := 16 * g.toInt) (by rw [hx11]) (by omega) (fun x12 hx12 => ?_)
      refine ex_al oq_X12_weeks_59 q0 ?_
      refine ex_gf oq_X12_weeks_60 Th9 (k := 111) (d := 12) rfl rfl (fr_now Th9) ?_
      refine ex_ic oq_X12_weeks_63 (m := 0) (by decide) (fun x13 hx13 => ?_)
      have Ph9 : cw_PP G h9 := pp_fr0 (by decide +kernel) hP0 Fh9
      refine ex_cs oq_X12_weeks_64 (by decide) (as := [cv_r 130, cv_i x12, cv_r 131, cv_i x13]) (stk := []) rfl rfl rfl ⟨rfl, rfl⟩ (cw_HX hla rfl (cw_Xok_no2 hX) ⟨Th9, Ph9⟩ ⟨.inl ⟨by decide, 130, rfl, rfl⟩, ⟨_, rfl, by show (0 : Int) ≤ _; omega, by show _ ≤ (48 : Int); omega, cw_tg0⟩, .inl ⟨by decide, 131, rfl, rfl⟩, ⟨_, rfl, by show (0 : Int) ≤ _; omega, by show _ ≤ (0 : Int); omega, cw_tg0⟩, trivial⟩ (fun t ht => absurd ht List.not_mem_nil)) (fun ox15 hox15 => ?_)
      obtain ⟨h14, rfl, Th14, Ph14, Ch14⟩ := po_non hox15 rfl
      show cw_X _ _ _ _ _ [] h14
      have Fh14 : cw_Fr cw_Ds cw_sh kk_X12_weeks.2.2.2.2.2.1 h0 h14 := cw_Fr_tr Fh9 (cw_Fr_mono (by decide +kernel) Ch14)
      have eh14_43 : ri_at h14 111 43 = ri_at h9 111 43 := ri_frf Ch14 (d := 12) rfl rfl (by decide +kernel)
      refine ex_incA oq_X12_weeks_67 (v := g) (m := 1) q2 (by decide) (by omega) (fun L17 x16 hx16 gL17_2 kL17 => ?_)
      have gL17_0 : cv_get L17 0 = some (cv_r 111) := kL17 0 _ (by decide) (fun q => absurd q (by decide)) q0
      have gL17_1 : cv_get L17 1 = some (cv_i n) := kL17 1 _ (by decide) (fun _ => rfl) q1
      refine ex_go oq_X12_weeks_70 (t := 32) rfl rfl ?_
      exact ih x16 h14 Th14 Fh14 L17 gL17_0 gL17_1 gL17_2 (by omega) (by omega) (by omega)
theorem hk_X12_weeks (hlo : cw_Holds fk_all mt_all cw_Ds cw_sh G (cw_PP G) kk_X12_loads) (hgo : cw_Holds fk_all mt_all cw_Ds cw_sh G (cw_PP G) kk_X12_goesOn) (hla : cw_Holds fk_all mt_all cw_Ds cw_sh G (cw_PP G) kk_X12_lays_1) : cw_Holds fk_all mt_all cw_Ds cw_sh G (cw_PP G) kk_X12_weeks := by
  refine cw_XH fun X h av hX hT hP hg hfp => ?_
  match av, hg with
  | [v0, v1], ⟨h0, ⟨n, e1, rn⟩, _⟩ =>
  obtain rfl : v0 = cv_r 111 := by
    rcases h0 with ⟨-, k, rfl, hk⟩ | ⟨j, hj, -⟩
    · rw [ri_uniq (d := 12) (k := 111) (by decide +kernel) k hk]
    · omega
  subst e1
  have Fh : cw_Fr cw_Ds cw_sh kk_X12_weeks.2.2.2.2.2.1 h h := cw_Fr_refl
  refine ex_al oq_X12_weeks_0 rfl ?_
  refine ex_ic oq_X12_weeks_1 (m := 0) (by decide) (fun x501 hx501 => ?_)
  refine ex_pfi oq_X12_weeks_2 hT (k := 111) (d := 12) rfl rfl rfl (cw_i32 _).1 (cw_i32 _).2 (fun h502 Th502 wh502 => ?_)
  have Fh502 : cw_Fr cw_Ds cw_sh kk_X12_weeks.2.2.2.2.2.1 h h502 := cw_Fr_tr Fh (cw_Fr_wrf wh502 (k := 111) (d := 12) rfl rfl (by decide +kernel))
  have eh502_43 : ri_at h502 111 43 = ri_at h 111 43 := ri_ne wh502 (by decide)
  refine ex_il oq_X12_weeks_5 rfl ?_
  refine ex_ic oq_X12_weeks_6 (m := 0) (by decide) (fun x503 hx503 => ?_)
  refine ex_si oq_X12_weeks_7 (m := 520) (by decide) (fun x504 hx504 => ?_)
  refine ex_cs oq_X12_weeks_10 (by decide) (as := [cv_i n, cv_i x503, cv_i x504]) (stk := []) rfl rfl rfl ⟨rfl, rfl⟩ (R := fun o => ∃ x : Int32, o = (some (cv_i x), h502) ∧ (x.toInt = 1 ∧ x503.toInt ≤ n.toInt ∧ n.toInt ≤ x504.toInt ∨ x.toInt = 0 ∧ ¬ (x503.toInt ≤ n.toInt ∧ n.toInt ≤ x504.toInt))) (sp_isIn Th502 n x503 x504  (fun x hx => ⟨x, rfl, hx⟩)) (fun ox505 hox505 => ?_)
  obtain ⟨x505, rfl, hx505⟩ := hox505
  show cw_X _ _ _ _ _ [cv_i x505] h502
  refine ex_if0 oq_X12_weeks_13 (t := 28) rfl rfl (fun (c506 : x505.toInt = 0) => ?_) (fun (c506 : ¬ (x505.toInt = 0)) => ?_)
  · refine ex_ic oq_X12_weeks_28 (m := (-1)) (by decide) (fun x507 hx507 => ?_)
    exact ex_reti oq_X12_weeks_29 rfl ⟨⟨_, rfl, cw_top_ok _⟩, ⟨Th502, pp_fr0 (by decide +kernel) hP Fh502⟩, Fh502, fun y hy hy0 => ⟨fun t ht => absurd ht List.not_mem_nil, fun t ht => absurd ht List.not_mem_nil⟩⟩
  · refine ex_al oq_X12_weeks_16 rfl ?_
    obtain ⟨x508, ax508, rx508, lx508, ux508⟩ := fi_week Th502
    refine ex_gf oq_X12_weeks_17 Th502 (k := 111) (d := 12) rfl rfl ax508 ?_
    refine ex_il oq_X12_weeks_20 rfl ?_
    refine ex_add oq_X12_weeks_21 (by omega) (fun x509 hx509 => ?_)
    refine ex_si oq_X12_weeks_22 (m := 2000) (by decide) (fun x510 hx510 => ?_)
    refine ex_if oq_X12_weeks_25 (t := 30) rfl rfl (fun (c511 : x509.toInt ≤ x510.toInt) => ?_) (fun (c511 : ¬ (x509.toInt ≤ x510.toInt)) => ?_)
    · refine ex_ic oq_X12_weeks_30 (m := 0) (by decide) (fun x512 hx512 => ?_)
      refine ex_isA oq_X12_weeks_31 (fun L513 gL513_2 kL513 => ?_)
      have gL513_0 : cv_get L513 0 = some (cv_r 111) := kL513 0 _ (by decide) (fun q => absurd q (by decide)) rfl
      have gL513_1 : cv_get L513 1 = some (cv_i n) := kL513 1 _ (by decide) (fun _ => rfl) rfl
      exact wk_32 hX hlo hgo hla hP n (by omega) (by omega) (fun x h a1 a2 => ⟨⟨x, rfl, cw_top_ok _⟩, ⟨a1, pp_fr0 (by decide +kernel) hP a2⟩, a2, fun y hy hy0 => ⟨fun t ht => absurd ht List.not_mem_nil, fun t ht => absurd ht List.not_mem_nil⟩⟩) _ x512 h502 Th502 Fh502 L513 gL513_0 gL513_1 gL513_2 (by omega) (by omega) (Nat.le_refl _)
    · refine ex_ic oq_X12_weeks_28 (m := (-1)) (by decide) (fun x514 hx514 => ?_)
      exact ex_reti oq_X12_weeks_29 rfl ⟨⟨_, rfl, cw_top_ok _⟩, ⟨Th502, pp_fr0 (by decide +kernel) hP Fh502⟩, Fh502, fun y hy hy0 => ⟨fun t ht => absurd ht List.not_mem_nil, fun t ht => absurd ht List.not_mem_nil⟩⟩
end SPF
