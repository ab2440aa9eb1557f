/-! ===== methods walked by hand: the tokens ===== -/
section SPC
variable {G : Int} {X : cv_X} {Q : cv_O → Prop}
theorem oq_X12_isSmall_0 : cw_ho 161 0 (.iload_n 1) 1 0 0 0 := rfl
theorem oq_X12_isSmall_1 : cw_ho 161 1 (.aload_n 0) 1 0 0 0 := rfl
theorem oq_X12_isSmall_2 : cw_ho 161 2 (.getfield 148) 3 12 6 0 := rfl
theorem oq_X12_isSmall_5 : cw_ho 161 5 (.if_icmp .ge 29) 3 0 0 0 := rfl
theorem oq_X12_isSmall_8 : cw_ho 161 8 (.aload_n 0) 1 0 0 0 := rfl
theorem oq_X12_isSmall_9 : cw_ho 161 9 (.getfield 7) 3 12 0 4 := rfl
theorem oq_X12_isSmall_12 : cw_ho 161 12 (.iload_n 1) 1 0 0 0 := rfl
theorem oq_X12_isSmall_13 : cw_ho 161 13 (.iaload) 1 0 0 0 := rfl
theorem oq_X12_isSmall_14 : cw_ho 161 14 (.bipush 97) 2 0 0 0 := rfl
theorem oq_X12_isSmall_16 : cw_ho 161 16 (.if_icmp .lt 18) 3 0 0 0 := rfl
theorem oq_X12_isSmall_19 : cw_ho 161 19 (.aload_n 0) 1 0 0 0 := rfl
theorem oq_X12_isSmall_20 : cw_ho 161 20 (.getfield 7) 3 12 0 4 := rfl
theorem oq_X12_isSmall_23 : cw_ho 161 23 (.iload_n 1) 1 0 0 0 := rfl
theorem oq_X12_isSmall_24 : cw_ho 161 24 (.iaload) 1 0 0 0 := rfl
theorem oq_X12_isSmall_25 : cw_ho 161 25 (.bipush 122) 2 0 0 0 := rfl
theorem oq_X12_isSmall_27 : cw_ho 161 27 (.if_icmp .gt 7) 3 0 0 0 := rfl
theorem oq_X12_isSmall_30 : cw_ho 161 30 (.iconst 1) 1 0 0 0 := rfl
theorem oq_X12_isSmall_31 : cw_ho 161 31 (.goto 4) 3 0 0 0 := rfl
theorem oq_X12_isSmall_34 : cw_ho 161 34 (.iconst 0) 1 0 0 0 := rfl
theorem oq_X12_isSmall_35 : cw_ho 161 35 (.ireturn) 1 0 0 0 := rfl
theorem sp_isSmall {h : cv_H} (hT : cw_T G h) (k : Int32) (k0 : 0 ≤ k.toInt) (k1 : k.toInt ≤ 900) (hk : k.toInt = ri_at h 111 7) (hQ : ∀ x : Int32, 0 ≤ x.toInt → x.toInt ≤ 1 → (x.toInt = 0 ∨ k.toInt < ri_at h 111 6) → (x.toInt = 1 ∧ (ri_at h 111 7 < ri_at h 111 6 ∧ 97 ≤ ri_at h 112 (ri_at h 111 7).toNat ∧ ri_at h 112 (ri_at h 111 7).toNat ≤ 122) ∨ x.toInt = 0 ∧ ¬ (ri_at h 111 7 < ri_at h 111 6 ∧ 97 ≤ ri_at h 112 (ri_at h 111 7).toNat ∧ ri_at h 112 (ri_at h 111 7).toNat ≤ 122)) → Q (some (cv_i x), h)) : cw_X X 161 Q 0 (cv_ent 0 [cv_r 111, cv_i k]) [] h := by
  refine ex_il oq_X12_isSmall_0 rfl ?_
  refine ex_al oq_X12_isSmall_1 rfl ?_
  obtain ⟨x1, ax1, rx1, lx1, ux1⟩ := fi_stop hT
  refine ex_gf oq_X12_isSmall_2 hT (k := 111) (d := 12) rfl rfl ax1 ?_
  refine ex_if oq_X12_isSmall_5 (t := 34) rfl rfl (fun (c2 : x1.toInt ≤ k.toInt) => ?_) (fun (c2 : ¬ (x1.toInt ≤ k.toInt)) => ?_)
  · refine ex_ic oq_X12_isSmall_34 (m := 0) (by decide) (fun x3 hx3 => ?_)
    exact ex_retb oq_X12_isSmall_35 rfl (by omega) (by omega) (hQ x3 (by omega) (by omega) (by omega) (by omega))
  · refine ex_al oq_X12_isSmall_8 rfl ?_
    refine ex_gf oq_X12_isSmall_9 hT (k := 111) (d := 12) rfl rfl (fr_tape hT) ?_
    refine ex_il oq_X12_isSmall_12 rfl ?_
    refine ex_ia1 oq_X12_isSmall_13 hT (k := 112) (d := 51) (j := (ri_at h 111 7).toNat) rfl rfl (by omega) (by omega) (fun x4 hx4 lx4 ux4 => ?_)
    refine ex_bi oq_X12_isSmall_14 (m := 97) (by decide) (fun x5 hx5 => ?_)
    refine ex_if oq_X12_isSmall_16 (t := 34) rfl rfl (fun (c6 : x4.toInt < x5.toInt) => ?_) (fun (c6 : ¬ (x4.toInt < x5.toInt)) => ?_)
    · refine ex_ic oq_X12_isSmall_34 (m := 0) (by decide) (fun x7 hx7 => ?_)
      exact ex_retb oq_X12_isSmall_35 rfl (by omega) (by omega) (hQ x7 (by omega) (by omega) (by omega) (by omega))
    · refine ex_al oq_X12_isSmall_19 rfl ?_
      refine ex_gf oq_X12_isSmall_20 hT (k := 111) (d := 12) rfl rfl (fr_tape hT) ?_
      refine ex_il oq_X12_isSmall_23 rfl ?_
      refine ex_ia1 oq_X12_isSmall_24 hT (k := 112) (d := 51) (j := (ri_at h 111 7).toNat) rfl rfl (by omega) (by omega) (fun x8 hx8 lx8 ux8 => ?_)
      refine ex_bi oq_X12_isSmall_25 (m := 122) (by decide) (fun x9 hx9 => ?_)
      refine ex_if oq_X12_isSmall_27 (t := 34) rfl rfl (fun (c10 : x9.toInt < x8.toInt) => ?_) (fun (c10 : ¬ (x9.toInt < x8.toInt)) => ?_)
      · refine ex_ic oq_X12_isSmall_34 (m := 0) (by decide) (fun x11 hx11 => ?_)
        exact ex_retb oq_X12_isSmall_35 rfl (by omega) (by omega) (hQ x11 (by omega) (by omega) (by omega) (by omega))
      · refine ex_ic oq_X12_isSmall_30 (m := 1) (by decide) (fun x12 hx12 => ?_)
        refine ex_go oq_X12_isSmall_31 (t := 35) rfl rfl ?_
        exact ex_retb oq_X12_isSmall_35 rfl (by omega) (by omega) (hQ x12 (by omega) (by omega) (by omega) (by omega))
theorem oq_X12_isDigit_0 : cw_ho 162 0 (.iload_n 1) 1 0 0 0 := rfl
theorem oq_X12_isDigit_1 : cw_ho 162 1 (.aload_n 0) 1 0 0 0 := rfl
theorem oq_X12_isDigit_2 : cw_ho 162 2 (.getfield 148) 3 12 6 0 := rfl
theorem oq_X12_isDigit_5 : cw_ho 162 5 (.if_icmp .ge 29) 3 0 0 0 := rfl
theorem oq_X12_isDigit_8 : cw_ho 162 8 (.aload_n 0) 1 0 0 0 := rfl
theorem oq_X12_isDigit_9 : cw_ho 162 9 (.getfield 7) 3 12 0 4 := rfl
theorem oq_X12_isDigit_12 : cw_ho 162 12 (.iload_n 1) 1 0 0 0 := rfl
theorem oq_X12_isDigit_13 : cw_ho 162 13 (.iaload) 1 0 0 0 := rfl
theorem oq_X12_isDigit_14 : cw_ho 162 14 (.bipush 48) 2 0 0 0 := rfl
theorem oq_X12_isDigit_16 : cw_ho 162 16 (.if_icmp .lt 18) 3 0 0 0 := rfl
theorem oq_X12_isDigit_19 : cw_ho 162 19 (.aload_n 0) 1 0 0 0 := rfl
theorem oq_X12_isDigit_20 : cw_ho 162 20 (.getfield 7) 3 12 0 4 := rfl
theorem oq_X12_isDigit_23 : cw_ho 162 23 (.iload_n 1) 1 0 0 0 := rfl
theorem oq_X12_isDigit_24 : cw_ho 162 24 (.iaload) 1 0 0 0 := rfl
theorem oq_X12_isDigit_25 : cw_ho 162 25 (.bipush 57) 2 0 0 0 := rfl
theorem oq_X12_isDigit_27 : cw_ho 162 27 (.if_icmp .gt 7) 3 0 0 0 := rfl
theorem oq_X12_isDigit_30 : cw_ho 162 30 (.iconst 1) 1 0 0 0 := rfl
theorem oq_X12_isDigit_31 : cw_ho 162 31 (.goto 4) 3 0 0 0 := rfl
theorem oq_X12_isDigit_34 : cw_ho 162 34 (.iconst 0) 1 0 0 0 := rfl
theorem oq_X12_isDigit_35 : cw_ho 162 35 (.ireturn) 1 0 0 0 := rfl
theorem sp_isDigit {h : cv_H} (hT : cw_T G h) (k : Int32) (k0 : 0 ≤ k.toInt) (k1 : k.toInt ≤ 900) (hk : k.toInt = ri_at h 111 7) (hQ : ∀ x : Int32, 0 ≤ x.toInt → x.toInt ≤ 1 → (x.toInt = 0 ∨ k.toInt < ri_at h 111 6) → (x.toInt = 1 ∧ (ri_at h 111 7 < ri_at h 111 6 ∧ 48 ≤ ri_at h 112 (ri_at h 111 7).toNat ∧ ri_at h 112 (ri_at h 111 7).toNat ≤ 57) ∨ x.toInt = 0 ∧ ¬ (ri_at h 111 7 < ri_at h 111 6 ∧ 48 ≤ ri_at h 112 (ri_at h 111 7).toNat ∧ ri_at h 112 (ri_at h 111 7).toNat ≤ 57)) → Q (some (cv_i x), h)) : cw_X X 162 Q 0 (cv_ent 0 [cv_r 111, cv_i k]) [] h := by
  refine ex_il oq_X12_isDigit_0 rfl ?_
  refine ex_al oq_X12_isDigit_1 rfl ?_
  obtain ⟨x1, ax1, rx1, lx1, ux1⟩ := fi_stop hT
  refine ex_gf oq_X12_isDigit_2 hT (k := 111) (d := 12) rfl rfl ax1 ?_
  refine ex_if oq_X12_isDigit_5 (t := 34) rfl rfl (fun (c2 : x1.toInt ≤ k.toInt) => ?_) (fun (c2 : ¬ (x1.toInt ≤ k.toInt)) => ?_)
  · refine ex_ic oq_X12_isDigit_34 (m := 0) (by decide) (fun x3 hx3 => ?_)
    exact ex_retb oq_X12_isDigit_35 rfl (by omega) (by omega) (hQ x3 (by omega) (by omega) (by omega) (by omega))
  · refine ex_al oq_X12_isDigit_8 rfl ?_
    refine ex_gf oq_X12_isDigit_9 hT (k := 111) (d := 12) rfl rfl (fr_tape hT) ?_
    refine ex_il oq_X12_isDigit_12 rfl ?_
    refine ex_ia1 oq_X12_isDigit_13 hT (k := 112) (d := 51) (j := (ri_at h 111 7).toNat) rfl rfl (by omega) (by omega) (fun x4 hx4 lx4 ux4 => ?_)
    refine ex_bi oq_X12_isDigit_14 (m := 48) (by decide) (fun x5 hx5 => ?_)
    refine ex_if oq_X12_isDigit_16 (t := 34) rfl rfl (fun (c6 : x4.toInt < x5.toInt) => ?_) (fun (c6 : ¬ (x4.toInt < x5.toInt)) => ?_)
    · refine ex_ic oq_X12_isDigit_34 (m := 0) (by decide) (fun x7 hx7 => ?_)
      exact ex_retb oq_X12_isDigit_35 rfl (by omega) (by omega) (hQ x7 (by omega) (by omega) (by omega) (by omega))
    · refine ex_al oq_X12_isDigit_19 rfl ?_
      refine ex_gf oq_X12_isDigit_20 hT (k := 111) (d := 12) rfl rfl (fr_tape hT) ?_
      refine ex_il oq_X12_isDigit_23 rfl ?_
      refine ex_ia1 oq_X12_isDigit_24 hT (k := 112) (d := 51) (j := (ri_at h 111 7).toNat) rfl rfl (by omega) (by omega) (fun x8 hx8 lx8 ux8 => ?_)
      refine ex_bi oq_X12_isDigit_25 (m := 57) (by decide) (fun x9 hx9 => ?_)
      refine ex_if oq_X12_isDigit_27 (t := 34) rfl rfl (fun (c10 : x9.toInt < x8.toInt) => ?_) (fun (c10 : ¬ (x9.toInt < x8.toInt)) => ?_)
      · refine ex_ic oq_X12_isDigit_34 (m := 0) (by decide) (fun x11 hx11 => ?_)
        exact ex_retb oq_X12_isDigit_35 rfl (by omega) (by omega) (hQ x11 (by omega) (by omega) (by omega) (by omega))
      · refine ex_ic oq_X12_isDigit_30 (m := 1) (by decide) (fun x12 hx12 => ?_)
        refine ex_go oq_X12_isDigit_31 (t := 35) rfl rfl ?_
        exact ex_retb oq_X12_isDigit_35 rfl (by omega) (by omega) (hQ x12 (by omega) (by omega) (by omega) (by omega))
theorem oq_X12_signToken_0 : cw_ho 164 0 (.aload_n 0) 1 0 0 0 := rfl
theorem oq_X12_signToken_1 : cw_ho 164 1 (.aload_n 0) 1 0 0 0 := rfl
theorem oq_X12_signToken_2 : cw_ho 164 2 (.getfield 7) 3 12 0 4 := rfl
theorem oq_X12_signToken_5 : cw_ho 164 5 (.aload_n 0) 1 0 0 0 := rfl
theorem oq_X12_signToken_6 : cw_ho 164 6 (.getfield 151) 3 12 7 0 := rfl
theorem oq_X12_signToken_9 : cw_ho 164 9 (.iaload) 1 0 0 0 := rfl
theorem oq_X12_signToken_10 : cw_ho 164 10 (.putfield 165) 3 12 9 0 := rfl
theorem oq_X12_signToken_13 : cw_ho 164 13 (.aload_n 0) 1 0 0 0 := rfl
theorem oq_X12_signToken_14 : cw_ho 164 14 (.dup) 1 0 0 0 := rfl
theorem oq_X12_signToken_15 : cw_ho 164 15 (.getfield 151) 3 12 7 0 := rfl
theorem oq_X12_signToken_18 : cw_ho 164 18 (.iconst 1) 1 0 0 0 := rfl
theorem oq_X12_signToken_19 : cw_ho 164 19 (.iadd) 1 0 0 0 := rfl
theorem oq_X12_signToken_20 : cw_ho 164 20 (.putfield 151) 3 12 7 0 := rfl
theorem oq_X12_signToken_23 : cw_ho 164 23 (.aload_n 0) 1 0 0 0 := rfl
theorem oq_X12_signToken_24 : cw_ho 164 24 (.getfield 165) 3 12 9 0 := rfl
theorem oq_X12_signToken_27 : cw_ho 164 27 (.bipush 60) 2 0 0 0 := rfl
theorem oq_X12_signToken_29 : cw_ho 164 29 (.if_icmp .eq 21) 3 0 0 0 := rfl
theorem oq_X12_signToken_32 : cw_ho 164 32 (.aload_n 0) 1 0 0 0 := rfl
theorem oq_X12_signToken_33 : cw_ho 164 33 (.getfield 165) 3 12 9 0 := rfl
theorem oq_X12_signToken_36 : cw_ho 164 36 (.bipush 62) 2 0 0 0 := rfl
theorem oq_X12_signToken_38 : cw_ho 164 38 (.if_icmp .eq 12) 3 0 0 0 := rfl
theorem oq_X12_signToken_41 : cw_ho 164 41 (.aload_n 0) 1 0 0 0 := rfl
theorem oq_X12_signToken_42 : cw_ho 164 42 (.getfield 165) 3 12 9 0 := rfl
theorem oq_X12_signToken_45 : cw_ho 164 45 (.bipush 61) 2 0 0 0 := rfl
theorem oq_X12_signToken_47 : cw_ho 164 47 (.if_icmp .ne 151) 3 0 0 0 := rfl
theorem oq_X12_signToken_50 : cw_ho 164 50 (.aload_n 0) 1 0 0 0 := rfl
theorem oq_X12_signToken_51 : cw_ho 164 51 (.getfield 151) 3 12 7 0 := rfl
theorem oq_X12_signToken_54 : cw_ho 164 54 (.aload_n 0) 1 0 0 0 := rfl
theorem oq_X12_signToken_55 : cw_ho 164 55 (.getfield 148) 3 12 6 0 := rfl
theorem oq_X12_signToken_58 : cw_ho 164 58 (.if_icmp .ge 15) 3 0 0 0 := rfl
theorem oq_X12_signToken_61 : cw_ho 164 61 (.aload_n 0) 1 0 0 0 := rfl
theorem oq_X12_signToken_62 : cw_ho 164 62 (.getfield 7) 3 12 0 4 := rfl
theorem oq_X12_signToken_65 : cw_ho 164 65 (.aload_n 0) 1 0 0 0 := rfl
theorem oq_X12_signToken_66 : cw_ho 164 66 (.getfield 151) 3 12 7 0 := rfl
theorem oq_X12_signToken_69 : cw_ho 164 69 (.iaload) 1 0 0 0 := rfl
theorem oq_X12_signToken_70 : cw_ho 164 70 (.goto 4) 3 0 0 0 := rfl
theorem oq_X12_signToken_73 : cw_ho 164 73 (.iconst 0) 1 0 0 0 := rfl
theorem oq_X12_signToken_74 : cw_ho 164 74 (.istore_n 1) 1 0 0 0 := rfl
theorem oq_X12_signToken_75 : cw_ho 164 75 (.aload_n 0) 1 0 0 0 := rfl
theorem oq_X12_signToken_76 : cw_ho 164 76 (.getfield 165) 3 12 9 0 := rfl
theorem oq_X12_signToken_79 : cw_ho 164 79 (.bipush 61) 2 0 0 0 := rfl
theorem oq_X12_signToken_81 : cw_ho 164 81 (.if_icmp .eq 13) 3 0 0 0 := rfl
theorem oq_X12_signToken_84 : cw_ho 164 84 (.iload_n 1) 1 0 0 0 := rfl
theorem oq_X12_signToken_85 : cw_ho 164 85 (.bipush 61) 2 0 0 0 := rfl
theorem oq_X12_signToken_87 : cw_ho 164 87 (.if_icmp .ne 7) 3 0 0 0 := rfl
theorem oq_X12_signToken_90 : cw_ho 164 90 (.iconst 1) 1 0 0 0 := rfl
theorem oq_X12_signToken_91 : cw_ho 164 91 (.goto 4) 3 0 0 0 := rfl
theorem oq_X12_signToken_94 : cw_ho 164 94 (.iconst 0) 1 0 0 0 := rfl
theorem oq_X12_signToken_95 : cw_ho 164 95 (.istore_n 2) 1 0 0 0 := rfl
theorem oq_X12_signToken_96 : cw_ho 164 96 (.aload_n 0) 1 0 0 0 := rfl
theorem oq_X12_signToken_97 : cw_ho 164 97 (.getfield 165) 3 12 9 0 := rfl
theorem oq_X12_signToken_100 : cw_ho 164 100 (.bipush 60) 2 0 0 0 := rfl
theorem oq_X12_signToken_102 : cw_ho 164 102 (.if_icmp .ne 13) 3 0 0 0 := rfl
theorem oq_X12_signToken_105 : cw_ho 164 105 (.iload_n 1) 1 0 0 0 := rfl
theorem oq_X12_signToken_106 : cw_ho 164 106 (.bipush 62) 2 0 0 0 := rfl
theorem oq_X12_signToken_108 : cw_ho 164 108 (.if_icmp .ne 7) 3 0 0 0 := rfl
theorem oq_X12_signToken_111 : cw_ho 164 111 (.iconst 1) 1 0 0 0 := rfl
theorem oq_X12_signToken_112 : cw_ho 164 112 (.goto 4) 3 0 0 0 := rfl
theorem oq_X12_signToken_115 : cw_ho 164 115 (.iconst 0) 1 0 0 0 := rfl
theorem oq_X12_signToken_116 : cw_ho 164 116 (.istore_n 3) 1 0 0 0 := rfl
theorem oq_X12_signToken_117 : cw_ho 164 117 (.iload_n 2) 1 0 0 0 := rfl
theorem oq_X12_signToken_118 : cw_ho 164 118 (.ifCond .ne 7) 3 0 0 0 := rfl
theorem oq_X12_signToken_121 : cw_ho 164 121 (.iload_n 3) 1 0 0 0 := rfl
theorem oq_X12_signToken_122 : cw_ho 164 122 (.ifCond .eq 13) 3 0 0 0 := rfl
theorem oq_X12_signToken_125 : cw_ho 164 125 (.aload_n 0) 1 0 0 0 := rfl
theorem oq_X12_signToken_126 : cw_ho 164 126 (.dup) 1 0 0 0 := rfl
theorem oq_X12_signToken_127 : cw_ho 164 127 (.getfield 151) 3 12 7 0 := rfl
theorem oq_X12_signToken_130 : cw_ho 164 130 (.iconst 1) 1 0 0 0 := rfl
theorem oq_X12_signToken_131 : cw_ho 164 131 (.iadd) 1 0 0 0 := rfl
theorem oq_X12_signToken_132 : cw_ho 164 132 (.putfield 151) 3 12 7 0 := rfl
theorem oq_X12_signToken_135 : cw_ho 164 135 (.aload_n 0) 1 0 0 0 := rfl
theorem oq_X12_signToken_136 : cw_ho 164 136 (.iconst 5) 1 0 0 0 := rfl
theorem oq_X12_signToken_137 : cw_ho 164 137 (.putfield 154) 3 12 8 0 := rfl
theorem oq_X12_signToken_140 : cw_ho 164 140 (.aload_n 0) 1 0 0 0 := rfl
theorem oq_X12_signToken_141 : cw_ho 164 141 (.aload_n 0) 1 0 0 0 := rfl
theorem oq_X12_signToken_142 : cw_ho 164 142 (.getfield 165) 3 12 9 0 := rfl
theorem oq_X12_signToken_145 : cw_ho 164 145 (.bipush 61) 2 0 0 0 := rfl
theorem oq_X12_signToken_147 : cw_ho 164 147 (.if_icmp .ne 7) 3 0 0 0 := rfl
theorem oq_X12_signToken_150 : cw_ho 164 150 (.iconst 2) 1 0 0 0 := rfl
theorem oq_X12_signToken_151 : cw_ho 164 151 (.goto 41) 3 0 0 0 := rfl
theorem oq_X12_signToken_154 : cw_ho 164 154 (.aload_n 0) 1 0 0 0 := rfl
theorem oq_X12_signToken_155 : cw_ho 164 155 (.getfield 165) 3 12 9 0 := rfl
theorem oq_X12_signToken_158 : cw_ho 164 158 (.bipush 60) 2 0 0 0 := rfl
theorem oq_X12_signToken_160 : cw_ho 164 160 (.if_icmp .ne 23) 3 0 0 0 := rfl
theorem oq_X12_signToken_163 : cw_ho 164 163 (.iload_n 2) 1 0 0 0 := rfl
theorem oq_X12_signToken_164 : cw_ho 164 164 (.ifCond .eq 7) 3 0 0 0 := rfl
theorem oq_X12_signToken_167 : cw_ho 164 167 (.iconst 1) 1 0 0 0 := rfl
theorem oq_X12_signToken_168 : cw_ho 164 168 (.goto 24) 3 0 0 0 := rfl
theorem oq_X12_signToken_171 : cw_ho 164 171 (.iload_n 3) 1 0 0 0 := rfl
theorem oq_X12_signToken_172 : cw_ho 164 172 (.ifCond .eq 7) 3 0 0 0 := rfl
theorem oq_X12_signToken_175 : cw_ho 164 175 (.iconst 3) 1 0 0 0 := rfl
theorem oq_X12_signToken_176 : cw_ho 164 176 (.goto 16) 3 0 0 0 := rfl
theorem oq_X12_signToken_179 : cw_ho 164 179 (.iconst 0) 1 0 0 0 := rfl
theorem oq_X12_signToken_180 : cw_ho 164 180 (.goto 12) 3 0 0 0 := rfl
theorem oq_X12_signToken_183 : cw_ho 164 183 (.iload_n 2) 1 0 0 0 := rfl
theorem oq_X12_signToken_184 : cw_ho 164 184 (.ifCond .eq 7) 3 0 0 0 := rfl
theorem oq_X12_signToken_187 : cw_ho 164 187 (.iconst 4) 1 0 0 0 := rfl
theorem oq_X12_signToken_188 : cw_ho 164 188 (.goto 4) 3 0 0 0 := rfl
theorem oq_X12_signToken_191 : cw_ho 164 191 (.iconst 5) 1 0 0 0 := rfl
theorem oq_X12_signToken_192 : cw_ho 164 192 (.putfield 165) 3 12 9 0 := rfl
theorem oq_X12_signToken_195 : cw_ho 164 195 (.goto 86) 3 0 0 0 := rfl
theorem oq_X12_signToken_198 : cw_ho 164 198 (.aload_n 0) 1 0 0 0 := rfl
theorem oq_X12_signToken_199 : cw_ho 164 199 (.getfield 165) 3 12 9 0 := rfl
theorem oq_X12_signToken_202 : cw_ho 164 202 (.bipush 59) 2 0 0 0 := rfl
theorem oq_X12_signToken_204 : cw_ho 164 204 (.if_icmp .eq 57) 3 0 0 0 := rfl
theorem oq_X12_signToken_207 : cw_ho 164 207 (.aload_n 0) 1 0 0 0 := rfl
theorem oq_X12_signToken_208 : cw_ho 164 208 (.getfield 165) 3 12 9 0 := rfl
theorem oq_X12_signToken_211 : cw_ho 164 211 (.bipush 40) 2 0 0 0 := rfl
theorem oq_X12_signToken_213 : cw_ho 164 213 (.if_icmp .eq 48) 3 0 0 0 := rfl
theorem oq_X12_signToken_216 : cw_ho 164 216 (.aload_n 0) 1 0 0 0 := rfl
theorem oq_X12_signToken_217 : cw_ho 164 217 (.getfield 165) 3 12 9 0 := rfl
theorem oq_X12_signToken_220 : cw_ho 164 220 (.bipush 41) 2 0 0 0 := rfl
theorem oq_X12_signToken_222 : cw_ho 164 222 (.if_icmp .eq 39) 3 0 0 0 := rfl
theorem oq_X12_signToken_225 : cw_ho 164 225 (.aload_n 0) 1 0 0 0 := rfl
theorem oq_X12_signToken_226 : cw_ho 164 226 (.getfield 165) 3 12 9 0 := rfl
theorem oq_X12_signToken_229 : cw_ho 164 229 (.bipush 43) 2 0 0 0 := rfl
theorem oq_X12_signToken_231 : cw_ho 164 231 (.if_icmp .eq 30) 3 0 0 0 := rfl
theorem oq_X12_signToken_234 : cw_ho 164 234 (.aload_n 0) 1 0 0 0 := rfl
theorem oq_X12_signToken_235 : cw_ho 164 235 (.getfield 165) 3 12 9 0 := rfl
theorem oq_X12_signToken_238 : cw_ho 164 238 (.bipush 45) 2 0 0 0 := rfl
theorem oq_X12_signToken_240 : cw_ho 164 240 (.if_icmp .eq 21) 3 0 0 0 := rfl
theorem oq_X12_signToken_243 : cw_ho 164 243 (.aload_n 0) 1 0 0 0 := rfl
theorem oq_X12_signToken_244 : cw_ho 164 244 (.getfield 165) 3 12 9 0 := rfl
theorem oq_X12_signToken_247 : cw_ho 164 247 (.bipush 42) 2 0 0 0 := rfl
theorem oq_X12_signToken_249 : cw_ho 164 249 (.if_icmp .eq 12) 3 0 0 0 := rfl
theorem oq_X12_signToken_252 : cw_ho 164 252 (.aload_n 0) 1 0 0 0 := rfl
theorem oq_X12_signToken_253 : cw_ho 164 253 (.getfield 165) 3 12 9 0 := rfl
theorem oq_X12_signToken_256 : cw_ho 164 256 (.bipush 47) 2 0 0 0 := rfl
theorem oq_X12_signToken_258 : cw_ho 164 258 (.if_icmp .ne 7) 3 0 0 0 := rfl
theorem oq_X12_signToken_261 : cw_ho 164 261 (.iconst 1) 1 0 0 0 := rfl
theorem oq_X12_signToken_262 : cw_ho 164 262 (.goto 4) 3 0 0 0 := rfl
theorem oq_X12_signToken_265 : cw_ho 164 265 (.iconst 0) 1 0 0 0 := rfl
theorem oq_X12_signToken_266 : cw_ho 164 266 (.istore_n 1) 1 0 0 0 := rfl
theorem oq_X12_signToken_267 : cw_ho 164 267 (.aload_n 0) 1 0 0 0 := rfl
theorem oq_X12_signToken_268 : cw_ho 164 268 (.iload_n 1) 1 0 0 0 := rfl
theorem oq_X12_signToken_269 : cw_ho 164 269 (.ifCond .eq 7) 3 0 0 0 := rfl
theorem oq_X12_signToken_272 : cw_ho 164 272 (.iconst 4) 1 0 0 0 := rfl
theorem oq_X12_signToken_273 : cw_ho 164 273 (.goto 5) 3 0 0 0 := rfl
theorem oq_X12_signToken_276 : cw_ho 164 276 (.bipush 6) 2 0 0 0 := rfl
theorem oq_X12_signToken_278 : cw_ho 164 278 (.putfield 154) 3 12 8 0 := rfl
theorem oq_X12_signToken_281 : cw_ho 164 281 (.return_) 1 0 0 0 := rfl
theorem st_267 {h0 : cv_H} (hs9 : ri_at h0 111 6 ≤ 900) (hfin : ∀ h, cw_T G h → cw_Fr cw_Ds cw_sh kk_X12_signToken.2.2.2.2.2.1 h0 h → ri_at h0 111 7 < ri_at h 111 7 → ri_at h 111 7 ≤ ri_at h0 111 6 → ri_at h 111 6 = ri_at h0 111 6 → ri_at h 111 8 ≠ 0 → ri_at h 111 8 ≠ 1 → (ri_at h 111 8 = 5 → 0 ≤ ri_at h 111 9 ∧ ri_at h 111 9 ≤ 5) → Q (none, h)) : ∀ (h : cv_H) (L : cv_L), cw_T G h → cw_Fr cw_Ds cw_sh kk_X12_signToken.2.2.2.2.2.1 h0 h → ri_at h0 111 7 < ri_at h 111 7 → ri_at h 111 7 ≤ ri_at h0 111 6 → ri_at h 111 6 = ri_at h0 111 6 → cv_get L 0 = some (cv_r 111) → ∀ y1 : Int32, cv_get L 1 = some (cv_i y1) → 0 ≤ y1.toInt → y1.toInt ≤ 1 → cw_X X 164 Q 267 L [] h := by
  intro h L Th Fh n1 n2 n3 q0 y1 q1 z1 t1
  refine ex_al oq_X12_signToken_267 q0 ?_
  refine ex_il oq_X12_signToken_268 q1 ?_
  refine ex_if0 oq_X12_signToken_269 (t := 276) rfl rfl (fun (c101 : y1.toInt = 0) => ?_) (fun (c101 : ¬ (y1.toInt = 0)) => ?_)
  · refine ex_bi oq_X12_signToken_276 (m := 6) (by decide) (fun x102 hx102 => ?_)
    refine ex_pfi oq_X12_signToken_278 Th (k := 111) (d := 12) rfl rfl rfl (by omega) (by omega) (fun h103 Th103 wh103 => ?_)
    have Fh103 : cw_Fr cw_Ds cw_sh kk_X12_signToken.2.2.2.2.2.1 h0 h103 := cw_Fr_tr Fh (cw_Fr_wrf wh103 (k := 111) (d := 12) rfl rfl (by decide +kernel))
    have eh103_7 : ri_at h103 111 7 = ri_at h 111 7 := ri_ne wh103 (by decide)
    have eh103_6 : ri_at h103 111 6 = ri_at h 111 6 := ri_ne wh103 (by decide)
    have eh103_8 : ri_at h103 111 8 = x102.toInt := ri_self wh103
    have eh103_9 : ri_at h103 111 9 = ri_at h 111 9 := ri_ne wh103 (by decide)
    have eh103_10 : ri_at h103 111 10 = ri_at h 111 10 := ri_ne wh103 (by decide)
    exact ex_retv oq_X12_signToken_281 rfl (hfin h103 Th103 Fh103 (by omega) (by omega) (by omega) (by omega) (by omega) (by omega))
  · refine ex_ic oq_X12_signToken_272 (m := 4) (by decide) (fun x104 hx104 => ?_)
    refine ex_go oq_X12_signToken_273 (t := 278) rfl rfl ?_
    refine ex_pfi oq_X12_signToken_278 Th (k := 111) (d := 12) rfl rfl rfl (by omega) (by omega) (fun h105 Th105 wh105 => ?_)
    have Fh105 : cw_Fr cw_Ds cw_sh kk_X12_signToken.2.2.2.2.2.1 h0 h105 := cw_Fr_tr Fh (cw_Fr_wrf wh105 (k := 111) (d := 12) rfl rfl (by decide +kernel))
    have eh105_7 : ri_at h105 111 7 = ri_at h 111 7 := ri_ne wh105 (by decide)
    have eh105_6 : ri_at h105 111 6 = ri_at h 111 6 := ri_ne wh105 (by decide)
    have eh105_8 : ri_at h105 111 8 = x104.toInt := ri_self wh105
    have eh105_9 : ri_at h105 111 9 = ri_at h 111 9 := ri_ne wh105 (by decide)
    have eh105_10 : ri_at h105 111 10 = ri_at h 111 10 := ri_ne wh105 (by decide)
    exact ex_retv oq_X12_signToken_281 rfl (hfin h105 Th105 Fh105 (by omega) (by omega) (by omega) (by omega) (by omega) (by omega))
theorem st_135 {h0 : cv_H} (hs9 : ri_at h0 111 6 ≤ 900) (hfin : ∀ h, cw_T G h → cw_Fr cw_Ds cw_sh kk_X12_signToken.2.2.2.2.2.1 h0 h → ri_at h0 111 7 < ri_at h 111 7 → ri_at h 111 7 ≤ ri_at h0 111 6 → ri_at h 111 6 = ri_at h0 111 6 → ri_at h 111 8 ≠ 0 → ri_at h 111 8 ≠ 1 → (ri_at h 111 8 = 5 → 0 ≤ ri_at h 111 9 ∧ ri_at h 111 9 ≤ 5) → Q (none, h)) : ∀ (h : cv_H) (L : cv_L), cw_T G h → cw_Fr cw_Ds cw_sh kk_X12_signToken.2.2.2.2.2.1 h0 h → ri_at h0 111 7 < ri_at h 111 7 → ri_at h 111 7 ≤ ri_at h0 111 6 → ri_at h 111 6 = ri_at h0 111 6 → cv_get L 0 = some (cv_r 111) → ∀ y2 : Int32, cv_get L 2 = some (cv_i y2) → 0 ≤ y2.toInt → y2.toInt ≤ 1 → ∀ y3 : Int32, cv_get L 3 = some (cv_i y3) → 0 ≤ y3.toInt → y3.toInt ≤ 1 → cw_X X 164 Q 135 L [] h := by
  intro h L Th Fh n1 n2 n3 q0 y2 q2 z2 t2 y3 q3 z3 t3
  refine ex_al oq_X12_signToken_135 q0 ?_
  refine ex_ic oq_X12_signToken_136 (m := 5) (by decide) (fun x301 hx301 => ?_)
  refine ex_pfi oq_X12_signToken_137 Th (k := 111) (d := 12) rfl rfl rfl (by omega) (by omega) (fun h302 Th302 wh302 => ?_)
  have Fh302 : cw_Fr cw_Ds cw_sh kk_X12_signToken.2.2.2.2.2.1 h0 h302 := cw_Fr_tr Fh (cw_Fr_wrf wh302 (k := 111) (d := 12) rfl rfl (by decide +kernel))
  have eh302_7 : ri_at h302 111 7 = ri_at h 111 7 := ri_ne wh302 (by decide)
  have eh302_6 : ri_at h302 111 6 = ri_at h 111 6 := ri_ne wh302 (by decide)
  have eh302_8 : ri_at h302 111 8 = x301.toInt := ri_self wh302
  have eh302_9 : ri_at h302 111 9 = ri_at h 111 9 := ri_ne wh302 (by decide)
  have eh302_10 : ri_at h302 111 10 = ri_at h 111 10 := ri_ne wh302 (by decide)
  refine ex_al oq_X12_signToken_140 q0 ?_
  refine ex_al oq_X12_signToken_141 q0 ?_
  obtain ⟨x303, ax303, rx303, lx303, ux303⟩ := fi_which Th302
  refine ex_gf oq_X12_signToken_142 Th302 (k := 111) (d := 12) rfl rfl ax303 ?_
  refine ex_bi oq_X12_signToken_145 (m := 61) (by decide) (fun x304 hx304 => ?_)
  refine ex_if oq_X12_signToken_147 (t := 154) rfl rfl (fun (c305 : ¬ x303.toInt = x304.toInt) => ?_) (fun (c305 : ¬ (¬ x303.toInt = x304.toInt)) => ?_)
  · refine ex_al oq_X12_signToken_154 q0 ?_
    obtain ⟨x306, ax306, rx306, lx306, ux306⟩ := fi_which Th302
    refine ex_gf oq_X12_signToken_155 Th302 (k := 111) (d := 12) rfl rfl ax306 ?_
    refine ex_bi oq_X12_signToken_158 (m := 60) (by decide) (fun x307 hx307 => ?_)
    refine ex_if oq_X12_signToken_160 (t := 183) rfl rfl (fun (c308 : ¬ x306.toInt = x307.toInt) => ?_) (fun (c308 : ¬ (¬ x306.toInt = x307.toInt)) => ?_)
    · refine ex_il oq_X12_signToken_183 q2 ?_
      refine ex_if0 oq_X12_signToken_184 (t := 191) rfl rfl (fun (c309 : y2.toInt = 0) => ?_) (fun (c309 : ¬ (y2.toInt = 0)) => ?_)
      · refine ex_ic oq_X12_signToken_191 (m := 5) (by decide) (fun x310 hx310 => ?_)
        refine ex_pfi oq_X12_signToken_192 Th302 (k := 111) (d := 12) rfl rfl rfl (cw_i32 _).1 (cw_i32 _).2 (fun h311 Th311 wh311 => ?_)
        have Fh311 : cw_Fr cw_Ds cw_sh kk_X12_signToken.2.2.2.2.2.1 h0 h311 := cw_Fr_tr Fh302 (cw_Fr_wrf wh311 (k := 111) (d := 12) rfl rfl (by decide +kernel))
        have eh311_7 : ri_at h311 111 7 = ri_at h302 111 7 := ri_ne wh311 (by decide)
        have eh311_6 : ri_at h311 111 6 = ri_at h302 111 6 := ri_ne wh311 (by decide)
        have eh311_8 : ri_at h311 111 8 = ri_at h302 111 8 := ri_ne wh311 (by decide)
        have eh311_9 : ri_at h311 111 9 = x310.toInt := ri_self wh311
        have eh311_10 : ri_at h311 111 10 = ri_at h302 111 10 := ri_ne wh311 (by decide)
        refine ex_go oq_X12_signToken_195 (t := 281) rfl rfl ?_
        exact ex_retv oq_X12_signToken_281 rfl (hfin h311 Th311 Fh311 (by omega) (by omega) (by omega) (by omega) (by omega) (by omega))
      · refine ex_ic oq_X12_signToken_187 (m := 4) (by decide) (fun x312 hx312 => ?_)
        refine ex_go oq_X12_signToken_188 (t := 192) rfl rfl ?_
        refine ex_pfi oq_X12_signToken_192 Th302 (k := 111) (d := 12) rfl rfl rfl (cw_i32 _).1 (cw_i32 _).2 (fun h313 Th313 wh313 => ?_)
        have Fh313 : cw_Fr cw_Ds cw_sh kk_X12_signToken.2.2.2.2.2.1 h0 h313 := cw_Fr_tr Fh302 (cw_Fr_wrf wh313 (k := 111) (d := 12) rfl rfl (by decide +kernel))
        have eh313_7 : ri_at h313 111 7 = ri_at h302 111 7 := ri_ne wh313 (by decide)
        have eh313_6 : ri_at h313 111 6 = ri_at h302 111 6 := ri_ne wh313 (by decide)
        have eh313_8 : ri_at h313 111 8 = ri_at h302 111 8 := ri_ne wh313 (by decide)
        have eh313_9 : ri_at h313 111 9 = x312.toInt := ri_self wh313
        have eh313_10 : ri_at h313 111 10 = ri_at h302 111 10 := ri_ne wh313 (by decide)
        refine ex_go oq_X12_signToken_195 (t := 281) rfl rfl ?_
        exact ex_retv oq_X12_signToken_281 rfl (hfin h313 Th313 Fh313 (by omega) (by omega) (by omega) (by omega) (by omega) (by omega))
    · refine ex_il oq_X12_signToken_163 q2 ?_
      refine ex_if0 oq_X12_signToken_164 (t := 171) rfl rfl (fun (c314 : y2.toInt = 0) => ?_) (fun (c314 : ¬ (y2.toInt = 0)) => ?_)
      · refine ex_il oq_X12_signToken_171 q3 ?_
        refine ex_if0 oq_X12_signToken_172 (t := 179) rfl rfl (fun (c315 : y3.toInt = 0) => ?_) (fun (c315 : ¬ (y3.toInt = 0)) => ?_)
        · refine ex_ic oq_X12_signToken_179 (m := 0) (by decide) (fun x316 hx316 => ?_)
          refine ex_go oq_X12_signToken_180 (t := 192) rfl rfl ?_
          refine ex_pfi oq_X12_signToken_192 Th302 (k := 111) (d := 12) rfl rfl rfl (cw_i32 _).1 (cw_i32 _).2 (fun h317 Th317 wh317 => ?_)
          have Fh317 : cw_Fr cw_Ds cw_sh kk_X12_signToken.2.2.2.2.2.1 h0 h317 := cw_Fr_tr Fh302 (cw_Fr_wrf wh317 (k := 111) (d := 12) rfl rfl (by decide +kernel))
          have eh317_7 : ri_at h317 111 7 = ri_at h302 111 7 := ri_ne wh317 (by decide)
          have eh317_6 : ri_at h317 111 6 = ri_at h302 111 6 := ri_ne wh317 (by decide)
          have eh317_8 : ri_at h317 111 8 = ri_at h302 111 8 := ri_ne wh317 (by decide)
          have eh317_9 : ri_at h317 111 9 = x316.toInt := ri_self wh317
          have eh317_10 : ri_at h317 111 10 = ri_at h302 111 10 := ri_ne wh317 (by decide)
          refine ex_go oq_X12_signToken_195 (t := 281) rfl rfl ?_
          exact ex_retv oq_X12_signToken_281 rfl (hfin h317 Th317 Fh317 (by omega) (by omega) (by omega) (by omega) (by omega) (by omega))
        · refine ex_ic oq_X12_signToken_175 (m := 3) (by decide) (fun x318 hx318 => ?_)
          refine ex_go oq_X12_signToken_176 (t := 192) rfl rfl ?_
          refine ex_pfi oq_X12_signToken_192 Th302 (k := 111) (d := 12) rfl rfl rfl (cw_i32 _).1 (cw_i32 _).2 (fun h319 Th319 wh319 => ?_)
          have Fh319 : cw_Fr cw_Ds cw_sh kk_X12_signToken.2.2.2.2.2.1 h0 h319 := cw_Fr_tr Fh302 (cw_Fr_wrf wh319 (k := 111) (d := 12) rfl rfl (by decide +kernel))
          have eh319_7 : ri_at h319 111 7 = ri_at h302 111 7 := ri_ne wh319 (by decide)
          have eh319_6 : ri_at h319 111 6 = ri_at h302 111 6 := ri_ne wh319 (by decide)
          have eh319_8 : ri_at h319 111 8 = ri_at h302 111 8 := ri_ne wh319 (by decide)
          have eh319_9 : ri_at h319 111 9 = x318.toInt := ri_self wh319
          have eh319_10 : ri_at h319 111 10 = ri_at h302 111 10 := ri_ne wh319 (by decide)
          refine ex_go oq_X12_signToken_195 (t := 281) rfl rfl ?_
          exact ex_retv oq_X12_signToken_281 rfl (hfin h319 Th319 Fh319 (by omega) (by omega) (by omega) (by omega) (by omega) (by omega))
      · refine ex_ic oq_X12_signToken_167 (m := 1) (by decide) (fun x320 hx320 => ?_)
        refine ex_go oq_X12_signToken_168 (t := 192) rfl rfl ?_
        refine ex_pfi oq_X12_signToken_192 Th302 (k := 111) (d := 12) rfl rfl rfl (cw_i32 _).1 (cw_i32 _).2 (fun h321 Th321 wh321 => ?_)
        have Fh321 : cw_Fr cw_Ds cw_sh kk_X12_signToken.2.2.2.2.2.1 h0 h321 := cw_Fr_tr Fh302 (cw_Fr_wrf wh321 (k := 111) (d := 12) rfl rfl (by decide +kernel))
        have eh321_7 : ri_at h321 111 7 = ri_at h302 111 7 := ri_ne wh321 (by decide)
        have eh321_6 : ri_at h321 111 6 = ri_at h302 111 6 := ri_ne wh321 (by decide)
        have eh321_8 : ri_at h321 111 8 = ri_at h302 111 8 := ri_ne wh321 (by decide)
        have eh321_9 : ri_at h321 111 9 = x320.toInt := ri_self wh321
        have eh321_10 : ri_at h321 111 10 = ri_at h302 111 10 := ri_ne wh321 (by decide)
        refine ex_go oq_X12_signToken_195 (t := 281) rfl rfl ?_
        exact ex_retv oq_X12_signToken_281 rfl (hfin h321 Th321 Fh321 (by omega) (by omega) (by omega) (by omega) (by omega) (by omega))
  · refine ex_ic oq_X12_signToken_150 (m := 2) (by decide) (fun x322 hx322 => ?_)
    refine ex_go oq_X12_signToken_151 (t := 192) rfl rfl ?_
    refine ex_pfi oq_X12_signToken_192 Th302 (k := 111) (d := 12) rfl rfl rfl (cw_i32 _).1 (cw_i32 _).2 (fun h323 Th323 wh323 => ?_)
    have Fh323 : cw_Fr cw_Ds cw_sh kk_X12_signToken.2.2.2.2.2.1 h0 h323 := cw_Fr_tr Fh302 (cw_Fr_wrf wh323 (k := 111) (d := 12) rfl rfl (by decide +kernel))
    have eh323_7 : ri_at h323 111 7 = ri_at h302 111 7 := ri_ne wh323 (by decide)
    have eh323_6 : ri_at h323 111 6 = ri_at h302 111 6 := ri_ne wh323 (by decide)
    have eh323_8 : ri_at h323 111 8 = ri_at h302 111 8 := ri_ne wh323 (by decide)
    have eh323_9 : ri_at h323 111 9 = x322.toInt := ri_self wh323
    have eh323_10 : ri_at h323 111 10 = ri_at h302 111 10 := ri_ne wh323 (by decide)
    refine ex_go oq_X12_signToken_195 (t := 281) rfl rfl ?_
    exact ex_retv oq_X12_signToken_281 rfl (hfin h323 Th323 Fh323 (by omega) (by omega) (by omega) (by omega) (by omega) (by omega))
theorem st_117 {h0 : cv_H} (hs9 : ri_at h0 111 6 ≤ 900) (hfin : ∀ h, cw_T G h → cw_Fr cw_Ds cw_sh kk_X12_signToken.2.2.2.2.2.1 h0 h → ri_at h0 111 7 < ri_at h 111 7 → ri_at h 111 7 ≤ ri_at h0 111 6 → ri_at h 111 6 = ri_at h0 111 6 → ri_at h 111 8 ≠ 0 → ri_at h 111 8 ≠ 1 → (ri_at h 111 8 = 5 → 0 ≤ ri_at h 111 9 ∧ ri_at h 111 9 ≤ 5) → Q (none, h)) : ∀ (h : cv_H) (L : cv_L), cw_T G h → cw_Fr cw_Ds cw_sh kk_X12_signToken.2.2.2.2.2.1 h0 h → ri_at h0 111 7 < ri_at h 111 7 → ri_at h 111 7 ≤ ri_at h0 111 6 → ri_at h 111 6 = ri_at h0 111 6 → cv_get L 0 = some (cv_r 111) → ∀ y2 : Int32, cv_get L 2 = some (cv_i y2) → 0 ≤ y2.toInt → y2.toInt ≤ 1 → ∀ y3 : Int32, cv_get L 3 = some (cv_i y3) → 0 ≤ y3.toInt → y3.toInt ≤ 1 → (y2.toInt = 0 ∧ y3.toInt = 0 ∨ ri_at h 111 7 < ri_at h 111 6) → cw_X X 164 Q 117 L [] h := by
  intro h L Th Fh n1 n2 n3 q0 y2 q2 z2 t2 y3 q3 z3 t3 d2
  refine ex_il oq_X12_signToken_117 q2 ?_
  refine ex_if0 oq_X12_signToken_118 (t := 125) rfl rfl (fun (c601 : ¬ y2.toInt = 0) => ?_) (fun (c601 : ¬ (¬ y2.toInt = 0)) => ?_)
  · refine ex_al oq_X12_signToken_125 q0 ?_
    refine ex_dup oq_X12_signToken_126 rfl ?_
    obtain ⟨x602, ax602, rx602, lx602, ux602⟩ := fi_next Th
    refine ex_gf oq_X12_signToken_127 Th (k := 111) (d := 12) rfl rfl ax602 ?_
    refine ex_ic oq_X12_signToken_130 (m := 1) (by decide) (fun x603 hx603 => ?_)
    refine ex_add oq_X12_signToken_131 (by omega) (fun x604 hx604 => ?_)
    refine ex_pfi oq_X12_signToken_132 Th (k := 111) (d := 12) rfl rfl rfl (by omega) (by omega) (fun h605 Th605 wh605 => ?_)
    have Fh605 : cw_Fr cw_Ds cw_sh kk_X12_signToken.2.2.2.2.2.1 h0 h605 := cw_Fr_tr Fh (cw_Fr_wrf wh605 (k := 111) (d := 12) rfl rfl (by decide +kernel))
    have eh605_7 : ri_at h605 111 7 = x604.toInt := ri_self wh605
    have eh605_6 : ri_at h605 111 6 = ri_at h 111 6 := ri_ne wh605 (by decide)
    have eh605_8 : ri_at h605 111 8 = ri_at h 111 8 := ri_ne wh605 (by decide)
    have eh605_9 : ri_at h605 111 9 = ri_at h 111 9 := ri_ne wh605 (by decide)
    have eh605_10 : ri_at h605 111 10 = ri_at h 111 10 := ri_ne wh605 (by decide)
    exact st_135 hs9 hfin h605 L Th605 Fh605 (by omega) (by omega) (by omega) q0 y2 q2 (by omega) (by omega) y3 q3 (by omega) (by omega)
  · refine ex_il oq_X12_signToken_121 q3 ?_
    refine ex_if0 oq_X12_signToken_122 (t := 135) rfl rfl (fun (c606 : y3.toInt = 0) => ?_) (fun (c606 : ¬ (y3.toInt = 0)) => ?_)
    · exact st_135 hs9 hfin h L Th Fh (by omega) (by omega) (by omega) q0 y2 q2 (by omega) (by omega) y3 q3 (by omega) (by omega)
    · refine ex_al oq_X12_signToken_125 q0 ?_
      refine ex_dup oq_X12_signToken_126 rfl ?_
      obtain ⟨x607, ax607, rx607, lx607, ux607⟩ := fi_next Th
      refine ex_gf oq_X12_signToken_127 Th (k := 111) (d := 12) rfl rfl ax607 ?_
      refine ex_ic oq_X12_signToken_130 (m := 1) (by decide) (fun x608 hx608 => ?_)
      refine ex_add oq_X12_signToken_131 (by omega) (fun x609 hx609 => ?_)
      refine ex_pfi oq_X12_signToken_132 Th (k := 111) (d := 12) rfl rfl rfl (by omega) (by omega) (fun h610 Th610 wh610 => ?_)
      have Fh610 : cw_Fr cw_Ds cw_sh kk_X12_signToken.2.2.2.2.2.1 h0 h610 := cw_Fr_tr Fh (cw_Fr_wrf wh610 (k := 111) (d := 12) rfl rfl (by decide +kernel))
      have eh610_7 : ri_at h610 111 7 = x609.toInt := ri_self wh610
      have eh610_6 : ri_at h610 111 6 = ri_at h 111 6 := ri_ne wh610 (by decide)
      have eh610_8 : ri_at h610 111 8 = ri_at h 111 8 := ri_ne wh610 (by decide)
      have eh610_9 : ri_at h610 111 9 = ri_at h 111 9 := ri_ne wh610 (by decide)
      have eh610_10 : ri_at h610 111 10 = ri_at h 111 10 := ri_ne wh610 (by decide)
      exact st_135 hs9 hfin h610 L Th610 Fh610 (by omega) (by omega) (by omega) q0 y2 q2 (by omega) (by omega) y3 q3 (by omega) (by omega)
theorem st_75 {h0 : cv_H} (hs9 : ri_at h0 111 6 ≤ 900) (hfin : ∀ h, cw_T G h → cw_Fr cw_Ds cw_sh kk_X12_signToken.2.2.2.2.2.1 h0 h → ri_at h0 111 7 < ri_at h 111 7 → ri_at h 111 7 ≤ ri_at h0 111 6 → ri_at h 111 6 = ri_at h0 111 6 → ri_at h 111 8 ≠ 0 → ri_at h 111 8 ≠ 1 → (ri_at h 111 8 = 5 → 0 ≤ ri_at h 111 9 ∧ ri_at h 111 9 ≤ 5) → Q (none, h)) : ∀ (h : cv_H) (L : cv_L), cw_T G h → cw_Fr cw_Ds cw_sh kk_X12_signToken.2.2.2.2.2.1 h0 h → ri_at h0 111 7 < ri_at h 111 7 → ri_at h 111 7 ≤ ri_at h0 111 6 → ri_at h 111 6 = ri_at h0 111 6 → cv_get L 0 = some (cv_r 111) → ∀ y1 : Int32, cv_get L 1 = some (cv_i y1) → (y1.toInt = 0 ∨ ri_at h 111 7 < ri_at h 111 6) → cw_X X 164 Q 75 L [] h := by
  intro h L Th Fh n1 n2 n3 q0 y1 q1 d1
  refine ex_al oq_X12_signToken_75 q0 ?_
  obtain ⟨x901, ax901, rx901, lx901, ux901⟩ := fi_which Th
  refine ex_gf oq_X12_signToken_76 Th (k := 111) (d := 12) rfl rfl ax901 ?_
  refine ex_bi oq_X12_signToken_79 (m := 61) (by decide) (fun x902 hx902 => ?_)
  refine ex_if oq_X12_signToken_81 (t := 94) rfl rfl (fun (c903 : x901.toInt = x902.toInt) => ?_) (fun (c903 : ¬ (x901.toInt = x902.toInt)) => ?_)
  · refine ex_ic oq_X12_signToken_94 (m := 0) (by decide) (fun x904 hx904 => ?_)
    refine ex_isA oq_X12_signToken_95 (fun L905 gL905_2 kL905 => ?_)
    have gL905_0 : cv_get L905 0 = some (cv_r 111) := kL905 0 _ (by decide) (fun q => absurd q (by decide)) q0
    have gL905_1 : cv_get L905 1 = some (cv_i y1) := kL905 1 _ (by decide) (fun _ => rfl) q1
    refine ex_al oq_X12_signToken_96 gL905_0 ?_
    obtain ⟨x906, ax906, rx906, lx906, ux906⟩ := fi_which Th
    refine ex_gf oq_X12_signToken_97 Th (k := 111) (d := 12) rfl rfl ax906 ?_
    refine ex_bi oq_X12_signToken_100 (m := 60) (by decide) (fun x907 hx907 => ?_)
    refine ex_if oq_X12_signToken_102 (t := 115) rfl rfl (fun (c908 : ¬ x906.toInt = x907.toInt) => ?_) (fun (c908 : ¬ (¬ x906.toInt = x907.toInt)) => ?_)
    · refine ex_ic oq_X12_signToken_115 (m := 0) (by decide) (fun x909 hx909 => ?_)
      refine ex_isA oq_X12_signToken_116 (fun L910 gL910_3 kL910 => ?_)
      have gL910_2 : cv_get L910 2 = some (cv_i x904) := kL910 2 _ (by decide) (fun _ => rfl) gL905_2
      have gL910_0 : cv_get L910 0 = some (cv_r 111) := kL910 0 _ (by decide) (fun q => absurd q (by decide)) gL905_0
      have gL910_1 : cv_get L910 1 = some (cv_i y1) := kL910 1 _ (by decide) (fun q => absurd q (by decide)) gL905_1
      exact st_117 hs9 hfin h L910 Th Fh (by omega) (by omega) (by omega) gL910_0 x904 gL910_2 (by omega) (by omega) x909 gL910_3 (by omega) (by omega) (by omega)
    · refine ex_il oq_X12_signToken_105 gL905_1 ?_
      refine ex_bi oq_X12_signToken_106 (m := 62) (by decide) (fun x911 hx911 => ?_)
      refine ex_if oq_X12_signToken_108 (t := 115) rfl rfl (fun (c912 : ¬ y1.toInt = x911.toInt) => ?_) (fun (c912 : ¬ (¬ y1.toInt = x911.toInt)) => ?_)
      · refine ex_ic oq_X12_signToken_115 (m := 0) (by decide) (fun x913 hx913 => ?_)
        refine ex_isA oq_X12_signToken_116 (fun L914 gL914_3 kL914 => ?_)
        have gL914_2 : cv_get L914 2 = some (cv_i x904) := kL914 2 _ (by decide) (fun _ => rfl) gL905_2
        have gL914_0 : cv_get L914 0 = some (cv_r 111) := kL914 0 _ (by decide) (fun q => absurd q (by decide)) gL905_0
        have gL914_1 : cv_get L914 1 = some (cv_i y1) := kL914 1 _ (by decide) (fun q => absurd q (by decide)) gL905_1
        exact st_117 hs9 hfin h L914 Th Fh (by omega) (by omega) (by omega) gL914_0 x904 gL914_2 (by omega) (by omega) x913 gL914_3 (by omega) (by omega) (by omega)
      · refine ex_ic oq_X12_signToken_111 (m := 1) (by decide) (fun x915 hx915 => ?_)
        refine ex_go oq_X12_signToken_112 (t := 116) rfl rfl ?_
        refine ex_isA oq_X12_signToken_116 (fun L916 gL916_3 kL916 => ?_)
        have gL916_2 : cv_get L916 2 = some (cv_i x904) := kL916 2 _ (by decide) (fun _ => rfl) gL905_2
        have gL916_0 : cv_get L916 0 = some (cv_r 111) := kL916 0 _ (by decide) (fun q => absurd q (by decide)) gL905_0
        have gL916_1 : cv_get L916 1 = some (cv_i y1) := kL916 1 _ (by decide) (fun q => absurd q (by decide)) gL905_1
        exact st_117 hs9 hfin h L916 Th Fh (by omega) (by omega) (by omega) gL916_0 x904 gL916_2 (by omega) (by omega) x915 gL916_3 (by omega) (by omega) (by omega)
  · refine ex_il oq_X12_signToken_84 q1 ?_
    refine ex_bi oq_X12_signToken_85 (m := 61) (by decide) (fun x917 hx917 => ?_)
    refine ex_if oq_X12_signToken_87 (t := 94) rfl rfl (fun (c918 : ¬ y1.toInt = x917.toInt) => ?_) (fun (c918 : ¬ (¬ y1.toInt = x917.toInt)) => ?_)
    · refine ex_ic oq_X12_signToken_94 (m := 0) (by decide) (fun x919 hx919 => ?_)
      refine ex_isA oq_X12_signToken_95 (fun L920 gL920_2 kL920 => ?_)
      have gL920_0 : cv_get L920 0 = some (cv_r 111) := kL920 0 _ (by decide) (fun q => absurd q (by decide)) q0
      have gL920_1 : cv_get L920 1 = some (cv_i y1) := kL920 1 _ (by decide) (fun _ => rfl) q1
      refine ex_al oq_X12_signToken_96 gL920_0 ?_
      obtain ⟨x921, ax921, rx921, lx921, ux921⟩ := fi_which Th
      refine ex_gf oq_X12_signToken_97 Th (k := 111) (d := 12) rfl rfl ax921 ?_
      refine ex_bi oq_X12_signToken_100 (m := 60) (by decide) (fun x922 hx922 => ?_)
      refine ex_if oq_X12_signToken_102 (t := 115) rfl rfl (fun (c923 : ¬ x921.toInt = x922.toInt) => ?_) (fun (c923 : ¬ (¬ x921.toInt = x922.toInt)) => ?_)
      · refine ex_ic oq_X12_signToken_115 (m := 0) (by decide) (fun x924 hx924 => ?_)
        refine ex_isA oq_X12_signToken_116 (fun L925 gL925_3 kL925 => ?_)
        have gL925_2 : cv_get L925 2 = some (cv_i x919) := kL925 2 _ (by decide) (fun _ => rfl) gL920_2
        have gL925_0 : cv_get L925 0 = some (cv_r 111) := kL925 0 _ (by decide) (fun q => absurd q (by decide)) gL920_0
        have gL925_1 : cv_get L925 1 = some (cv_i y1) := kL925 1 _ (by decide) (fun q => absurd q (by decide)) gL920_1
        exact st_117 hs9 hfin h L925 Th Fh (by omega) (by omega) (by omega) gL925_0 x919 gL925_2 (by omega) (by omega) x924 gL925_3 (by omega) (by omega) (by omega)
      · refine ex_il oq_X12_signToken_105 gL920_1 ?_
        refine ex_bi oq_X12_signToken_106 (m := 62) (by decide) (fun x926 hx926 => ?_)
        refine ex_if oq_X12_signToken_108 (t := 115) rfl rfl (fun (c927 : ¬ y1.toInt = x926.toInt) => ?_) (fun (c927 : ¬ (¬ y1.toInt = x926.toInt)) => ?_)
        · refine ex_ic oq_X12_signToken_115 (m := 0) (by decide) (fun x928 hx928 => ?_)
          refine ex_isA oq_X12_signToken_116 (fun L929 gL929_3 kL929 => ?_)
          have gL929_2 : cv_get L929 2 = some (cv_i x919) := kL929 2 _ (by decide) (fun _ => rfl) gL920_2
          have gL929_0 : cv_get L929 0 = some (cv_r 111) := kL929 0 _ (by decide) (fun q => absurd q (by decide)) gL920_0
          have gL929_1 : cv_get L929 1 = some (cv_i y1) := kL929 1 _ (by decide) (fun q => absurd q (by decide)) gL920_1
          exact st_117 hs9 hfin h L929 Th Fh (by omega) (by omega) (by omega) gL929_0 x919 gL929_2 (by omega) (by omega) x928 gL929_3 (by omega) (by omega) (by omega)
        · refine ex_ic oq_X12_signToken_111 (m := 1) (by decide) (fun x930 hx930 => ?_)
          refine ex_go oq_X12_signToken_112 (t := 116) rfl rfl ?_
          refine ex_isA oq_X12_signToken_116 (fun L931 gL931_3 kL931 => ?_)
          have gL931_2 : cv_get L931 2 = some (cv_i x919) := kL931 2 _ (by decide) (fun _ => rfl) gL920_2
          have gL931_0 : cv_get L931 0 = some (cv_r 111) := kL931 0 _ (by decide) (fun q => absurd q (by decide)) gL920_0
          have gL931_1 : cv_get L931 1 = some (cv_i y1) := kL931 1 _ (by decide) (fun q => absurd q (by decide)) gL920_1
          exact st_117 hs9 hfin h L931 Th Fh (by omega) (by omega) (by omega) gL931_0 x919 gL931_2 (by omega) (by omega) x930 gL931_3 (by omega) (by omega) (by omega)
    · refine ex_ic oq_X12_signToken_90 (m := 1) (by decide) (fun x932 hx932 => ?_)
      refine ex_go oq_X12_signToken_91 (t := 95) rfl rfl ?_
      refine ex_isA oq_X12_signToken_95 (fun L933 gL933_2 kL933 => ?_)
      have gL933_0 : cv_get L933 0 = some (cv_r 111) := kL933 0 _ (by decide) (fun q => absurd q (by decide)) q0
      have gL933_1 : cv_get L933 1 = some (cv_i y1) := kL933 1 _ (by decide) (fun _ => rfl) q1
      refine ex_al oq_X12_signToken_96 gL933_0 ?_
      obtain ⟨x934, ax934, rx934, lx934, ux934⟩ := fi_which Th
      refine ex_gf oq_X12_signToken_97 Th (k := 111) (d := 12) rfl rfl ax934 ?_
      refine ex_bi oq_X12_signToken_100 (m := 60) (by decide) (fun x935 hx935 => ?_)
      refine ex_if oq_X12_signToken_102 (t := 115) rfl rfl (fun (c936 : ¬ x934.toInt = x935.toInt) => ?_) (fun (c936 : ¬ (¬ x934.toInt = x935.toInt)) => ?_)
      · refine ex_ic oq_X12_signToken_115 (m := 0) (by decide) (fun x937 hx937 => ?_)
        refine ex_isA oq_X12_signToken_116 (fun L938 gL938_3 kL938 => ?_)
        have gL938_2 : cv_get L938 2 = some (cv_i x932) := kL938 2 _ (by decide) (fun _ => rfl) gL933_2
        have gL938_0 : cv_get L938 0 = some (cv_r 111) := kL938 0 _ (by decide) (fun q => absurd q (by decide)) gL933_0
        have gL938_1 : cv_get L938 1 = some (cv_i y1) := kL938 1 _ (by decide) (fun q => absurd q (by decide)) gL933_1
        exact st_117 hs9 hfin h L938 Th Fh (by omega) (by omega) (by omega) gL938_0 x932 gL938_2 (by omega) (by omega) x937 gL938_3 (by omega) (by omega) (by omega)
      · refine ex_il oq_X12_signToken_105 gL933_1 ?_
        refine ex_bi oq_X12_signToken_106 (m := 62) (by decide) (fun x939 hx939 => ?_)
        refine ex_if oq_X12_signToken_108 (t := 115) rfl rfl (fun (c940 : ¬ y1.toInt = x939.toInt) => ?_) (fun (c940 : ¬ (¬ y1.toInt = x939.toInt)) => ?_)
        · refine ex_ic oq_X12_signToken_115 (m := 0) (by decide) (fun x941 hx941 => ?_)
          refine ex_isA oq_X12_signToken_116 (fun L942 gL942_3 kL942 => ?_)
          have gL942_2 : cv_get L942 2 = some (cv_i x932) := kL942 2 _ (by decide) (fun _ => rfl) gL933_2
          have gL942_0 : cv_get L942 0 = some (cv_r 111) := kL942 0 _ (by decide) (fun q => absurd q (by decide)) gL933_0
          have gL942_1 : cv_get L942 1 = some (cv_i y1) := kL942 1 _ (by decide) (fun q => absurd q (by decide)) gL933_1
          exact st_117 hs9 hfin h L942 Th Fh (by omega) (by omega) (by omega) gL942_0 x932 gL942_2 (by omega) (by omega) x941 gL942_3 (by omega) (by omega) (by omega)
        · refine ex_ic oq_X12_signToken_111 (m := 1) (by decide) (fun x943 hx943 => ?_)
          refine ex_go oq_X12_signToken_112 (t := 116) rfl rfl ?_
          refine ex_isA oq_X12_signToken_116 (fun L944 gL944_3 kL944 => ?_)
          have gL944_2 : cv_get L944 2 = some (cv_i x932) := kL944 2 _ (by decide) (fun _ => rfl) gL933_2
          have gL944_0 : cv_get L944 0 = some (cv_r 111) := kL944 0 _ (by decide) (fun q => absurd q (by decide)) gL933_0
          have gL944_1 : cv_get L944 1 = some (cv_i y1) := kL944 1 _ (by decide) (fun q => absurd q (by decide)) gL933_1
          exact st_117 hs9 hfin h L944 Th Fh (by omega) (by omega) (by omega) gL944_0 x932 gL944_2 (by omega) (by omega) x943 gL944_3 (by omega) (by omega) (by omega)
theorem sp_signToken {h0 : cv_H} (hT : cw_T G h0) (hn : ri_at h0 111 7 < ri_at h0 111 6) (hfin : ∀ h, cw_T G h → cw_Fr cw_Ds cw_sh kk_X12_signToken.2.2.2.2.2.1 h0 h → ri_at h0 111 7 < ri_at h 111 7 → ri_at h 111 7 ≤ ri_at h0 111 6 → ri_at h 111 6 = ri_at h0 111 6 → ri_at h 111 8 ≠ 0 → ri_at h 111 8 ≠ 1 → (ri_at h 111 8 = 5 → 0 ≤ ri_at h 111 9 ∧ ri_at h 111 9 ≤ 5) → Q (none, h)) : cw_X X 164 Q 0 (cv_ent 0 [cv_r 111]) [] h0 := by
  have Fh0 : cw_Fr cw_Ds cw_sh kk_X12_signToken.2.2.2.2.2.1 h0 h0 := cw_Fr_refl
  obtain ⟨_, _, rst, _, ust⟩ := fi_stop hT
  have hs9 : ri_at h0 111 6 ≤ 900 := by omega
  refine ex_al oq_X12_signToken_0 rfl ?_
  refine ex_al oq_X12_signToken_1 rfl ?_
  refine ex_gf oq_X12_signToken_2 hT (k := 111) (d := 12) rfl rfl (fr_tape hT) ?_
  refine ex_al oq_X12_signToken_5 rfl ?_
  obtain ⟨x1201, ax1201, rx1201, lx1201, ux1201⟩ := fi_next hT
  refine ex_gf oq_X12_signToken_6 hT (k := 111) (d := 12) rfl rfl ax1201 ?_
  refine ex_ia1 oq_X12_signToken_9 hT (k := 112) (d := 51) (j := x1201.toInt.toNat) rfl rfl (by omega) (by omega) (fun x1202 hx1202 lx1202 ux1202 => ?_)
  refine ex_pfi oq_X12_signToken_10 hT (k := 111) (d := 12) rfl rfl rfl (cw_i32 _).1 (cw_i32 _).2 (fun h1203 Th1203 wh1203 => ?_)
  have Fh1203 : cw_Fr cw_Ds cw_sh kk_X12_signToken.2.2.2.2.2.1 h0 h1203 := cw_Fr_tr Fh0 (cw_Fr_wrf wh1203 (k := 111) (d := 12) rfl rfl (by decide +kernel))
  have eh1203_7 : ri_at h1203 111 7 = ri_at h0 111 7 := ri_ne wh1203 (by decide)
  have eh1203_6 : ri_at h1203 111 6 = ri_at h0 111 6 := ri_ne wh1203 (by decide)
  have eh1203_8 : ri_at h1203 111 8 = ri_at h0 111 8 := ri_ne wh1203 (by decide)
  have eh1203_9 : ri_at h1203 111 9 = x1202.toInt := ri_self wh1203
  have eh1203_10 : ri_at h1203 111 10 = ri_at h0 111 10 := ri_ne wh1203 (by decide)
  refine ex_al oq_X12_signToken_13 rfl ?_
  refine ex_dup oq_X12_signToken_14 rfl ?_
  obtain ⟨x1204, ax1204, rx1204, lx1204, ux1204⟩ := fi_next Th1203
  refine ex_gf oq_X12_signToken_15 Th1203 (k := 111) (d := 12) rfl rfl ax1204 ?_
  refine ex_ic oq_X12_signToken_18 (m := 1) (by decide) (fun x1205 hx1205 => ?_)
  refine ex_add oq_X12_signToken_19 (by omega) (fun x1206 hx1206 => ?_)
  refine ex_pfi oq_X12_signToken_20 Th1203 (k := 111) (d := 12) rfl rfl rfl (by omega) (by omega) (fun h1207 Th1207 wh1207 => ?_)
  have Fh1207 : cw_Fr cw_Ds cw_sh kk_X12_signToken.2.2.2.2.2.1 h0 h1207 := cw_Fr_tr Fh1203 (cw_Fr_wrf wh1207 (k := 111) (d := 12) rfl rfl (by decide +kernel))
  have eh1207_7 : ri_at h1207 111 7 = x1206.toInt := ri_self wh1207
  have eh1207_6 : ri_at h1207 111 6 = ri_at h1203 111 6 := ri_ne wh1207 (by decide)
  have eh1207_8 : ri_at h1207 111 8 = ri_at h1203 111 8 := ri_ne wh1207 (by decide)
  have eh1207_9 : ri_at h1207 111 9 = ri_at h1203 111 9 := ri_ne wh1207 (by decide)
  have eh1207_10 : ri_at h1207 111 10 = ri_at h1203 111 10 := ri_ne wh1207 (by decide)
  refine ex_al oq_X12_signToken_23 rfl ?_
  obtain ⟨x1208, ax1208, rx1208, lx1208, ux1208⟩ := fi_which Th1207
  refine ex_gf oq_X12_signToken_24 Th1207 (k := 111) (d := 12) rfl rfl ax1208 ?_
  refine ex_bi oq_X12_signToken_27 (m := 60) (by decide) (fun x1209 hx1209 => ?_)
  refine ex_if oq_X12_signToken_29 (t := 50) rfl rfl (fun (c1210 : x1208.toInt = x1209.toInt) => ?_) (fun (c1210 : ¬ (x1208.toInt = x1209.toInt)) => ?_)
  · refine ex_al oq_X12_signToken_50 rfl ?_
    obtain ⟨x1211, ax1211, rx1211, lx1211, ux1211⟩ := fi_next Th1207
    refine ex_gf oq_X12_signToken_51 Th1207 (k := 111) (d := 12) rfl rfl ax1211 ?_
    refine ex_al oq_X12_signToken_54 rfl ?_
    obtain ⟨x1212, ax1212, rx1212, lx1212, ux1212⟩ := fi_stop Th1207
    refine ex_gf oq_X12_signToken_55 Th1207 (k := 111) (d := 12) rfl rfl ax1212 ?_
    refine ex_if oq_X12_signToken_58 (t := 73) rfl rfl (fun (c1213 : x1212.toInt ≤ x1211.toInt) => ?_) (fun (c1213 : ¬ (x1212.toInt ≤ x1211.toInt)) => ?_)
    · refine ex_ic oq_X12_signToken_73 (m := 0) (by decide) (fun x1214 hx1214 => ?_)
      refine ex_isA oq_X12_signToken_74 (fun L1215 gL1215_1 kL1215 => ?_)
      have gL1215_0 : cv_get L1215 0 = some (cv_r 111) := kL1215 0 _ (by decide) (fun _ => rfl) rfl
      exact st_75 hs9 hfin h1207 L1215 Th1207 Fh1207 (by omega) (by omega) (by omega) gL1215_0 x1214 gL1215_1 (by omega)
    · refine ex_al oq_X12_signToken_61 rfl ?_
      refine ex_gf oq_X12_signToken_62 Th1207 (k := 111) (d := 12) rfl rfl (fr_tape Th1207) ?_
      refine ex_al oq_X12_signToken_65 rfl ?_
      obtain ⟨x1216, ax1216, rx1216, lx1216, ux1216⟩ := fi_next Th1207
      refine ex_gf oq_X12_signToken_66 Th1207 (k := 111) (d := 12) rfl rfl ax1216 ?_
      refine ex_ia1 oq_X12_signToken_69 Th1207 (k := 112) (d := 51) (j := x1216.toInt.toNat) rfl rfl (by omega) (by omega) (fun x1217 hx1217 lx1217 ux1217 => ?_)
      refine ex_go oq_X12_signToken_70 (t := 74) rfl rfl ?_
      refine ex_isA oq_X12_signToken_74 (fun L1218 gL1218_1 kL1218 => ?_)
      have gL1218_0 : cv_get L1218 0 = some (cv_r 111) := kL1218 0 _ (by decide) (fun _ => rfl) rfl
      exact st_75 hs9 hfin h1207 L1218 Th1207 Fh1207 (by omega) (by omega) (by omega) gL1218_0 x1217 gL1218_1 (by omega)
  · refine ex_al oq_X12_signToken_32 rfl ?_
    obtain ⟨x1219, ax1219, rx1219, lx1219, ux1219⟩ := fi_which Th1207
    refine ex_gf oq_X12_signToken_33 Th1207 (k := 111) (d := 12) rfl rfl ax1219 ?_
    refine ex_bi oq_X12_signToken_36 (m := 62) (by decide) (fun x1220 hx1220 => ?_)
    refine ex_if oq_X12_signToken_38 (t := 50) rfl rfl (fun (c1221 : x1219.toInt = x1220.toInt) => ?_) (fun (c1221 : ¬ (x1219.toInt = x1220.toInt)) => ?_)
    · refine ex_al oq_X12_signToken_50 rfl ?_
      obtain ⟨x1222, ax1222, rx1222, lx1222, ux1222⟩ := fi_next Th1207
      refine ex_gf oq_X12_signToken_51 Th1207 (k := 111) (d := 12) rfl rfl ax1222 ?_
      refine ex_al oq_X12_signToken_54 rfl ?_
      obtain ⟨x1223, ax1223, rx1223, lx1223, ux1223⟩ := fi_stop Th1207
      refine ex_gf oq_X12_signToken_55 Th1207 (k := 111) (d := 12) rfl rfl ax1223 ?_
      refine ex_if oq_X12_signToken_58 (t := 73) rfl rfl (fun (c1224 : x1223.toInt ≤ x1222.toInt) => ?_) (fun (c1224 : ¬ (x1223.toInt ≤ x1222.toInt)) => ?_)
      · refine ex_ic oq_X12_signToken_73 (m := 0) (by decide) (fun x1225 hx1225 => ?_)
        refine ex_isA oq_X12_signToken_74 (fun L1226 gL1226_1 kL1226 => ?_)
        have gL1226_0 : cv_get L1226 0 = some (cv_r 111) := kL1226 0 _ (by decide) (fun _ => rfl) rfl
        exact st_75 hs9 hfin h1207 L1226 Th1207 Fh1207 (by omega) (by omega) (by omega) gL1226_0 x1225 gL1226_1 (by omega)
      · refine ex_al oq_X12_signToken_61 rfl ?_
        refine ex_gf oq_X12_signToken_62 Th1207 (k := 111) (d := 12) rfl rfl (fr_tape Th1207) ?_
        refine ex_al oq_X12_signToken_65 rfl ?_
        obtain ⟨x1227, ax1227, rx1227, lx1227, ux1227⟩ := fi_next Th1207
        refine ex_gf oq_X12_signToken_66 Th1207 (k := 111) (d := 12) rfl rfl ax1227 ?_
        refine ex_ia1 oq_X12_signToken_69 Th1207 (k := 112) (d := 51) (j := x1227.toInt.toNat) rfl rfl (by omega) (by omega) (fun x1228 hx1228 lx1228 ux1228 => ?_)
        refine ex_go oq_X12_signToken_70 (t := 74) rfl rfl ?_
        refine ex_isA oq_X12_signToken_74 (fun L1229 gL1229_1 kL1229 => ?_)
        have gL1229_0 : cv_get L1229 0 = some (cv_r 111) := kL1229 0 _ (by decide) (fun _ => rfl) rfl
        exact st_75 hs9 hfin h1207 L1229 Th1207 Fh1207 (by omega) (by omega) (by omega) gL1229_0 x1228 gL1229_1 (by omega)
    · refine ex_al oq_X12_signToken_41 rfl ?_
      obtain ⟨x1230, ax1230, rx1230, lx1230, ux1230⟩ := fi_which Th1207
      refine ex_gf oq_X12_signToken_42 Th1207 (k := 111) (d := 12) rfl rfl ax1230 ?_
      refine ex_bi oq_X12_signToken_45 (m := 61) (by decide) (fun x1231 hx1231 => ?_)
      refine ex_if oq_X12_signToken_47 (t := 198) rfl rfl (fun (c1232 : ¬ x1230.toInt = x1231.toInt) => ?_) (fun (c1232 : ¬ (¬ x1230.toInt = x1231.toInt)) => ?_)
      · refine ex_al oq_X12_signToken_198 rfl ?_
        obtain ⟨x1233, ax1233, rx1233, lx1233, ux1233⟩ := fi_which Th1207
        refine ex_gf oq_X12_signToken_199 Th1207 (k := 111) (d := 12) rfl rfl ax1233 ?_
        refine ex_bi oq_X12_signToken_202 (m := 59) (by decide) (fun x1234 hx1234 => ?_)
        refine ex_if oq_X12_signToken_204 (t := 261) rfl rfl (fun (c1235 : x1233.toInt = x1234.toInt) => ?_) (fun (c1235 : ¬ (x1233.toInt = x1234.toInt)) => ?_)
        · refine ex_ic oq_X12_signToken_261 (m := 1) (by decide) (fun x1236 hx1236 => ?_)
          refine ex_go oq_X12_signToken_262 (t := 266) rfl rfl ?_
          refine ex_isA oq_X12_signToken_266 (fun L1237 gL1237_1 kL1237 => ?_)
          have gL1237_0 : cv_get L1237 0 = some (cv_r 111) := kL1237 0 _ (by decide) (fun _ => rfl) rfl
          exact st_267 hs9 hfin h1207 L1237 Th1207 Fh1207 (by omega) (by omega) (by omega) gL1237_0 x1236 gL1237_1 (by omega) (by omega)
        · refine ex_al oq_X12_signToken_207 rfl ?_
          obtain ⟨x1238, ax1238, rx1238, lx1238, ux1238⟩ := fi_which Th1207
          refine ex_gf oq_X12_signToken_208 Th1207 (k := 111) (d := 12) rfl rfl ax1238 ?_
          refine ex_bi oq_X12_signToken_211 (m := 40) (by decide) (fun x1239 hx1239 => ?_)
          refine ex_if oq_X12_signToken_213 (t := 261) rfl rfl (fun (c1240 : x1238.toInt = x1239.toInt) => ?_) (fun (c1240 : ¬ (x1238.toInt = x1239.toInt)) => ?_)
          · refine ex_ic oq_X12_signToken_261 (m := 1) (by decide) (fun x1241 hx1241 => ?_)
            refine ex_go oq_X12_signToken_262 (t := 266) rfl rfl ?_
            refine ex_isA oq_X12_signToken_266 (fun L1242 gL1242_1 kL1242 => ?_)
            have gL1242_0 : cv_get L1242 0 = some (cv_r 111) := kL1242 0 _ (by decide) (fun _ => rfl) rfl
            exact st_267 hs9 hfin h1207 L1242 Th1207 Fh1207 (by omega) (by omega) (by omega) gL1242_0 x1241 gL1242_1 (by omega) (by omega)
          · refine ex_al oq_X12_signToken_216 rfl ?_
            obtain ⟨x1243, ax1243, rx1243, lx1243, ux1243⟩ := fi_which Th1207
            refine ex_gf oq_X12_signToken_217 Th1207 (k := 111) (d := 12) rfl rfl ax1243 ?_
            refine ex_bi oq_X12_signToken_220 (m := 41) (by decide) (fun x1244 hx1244 => ?_)
            refine ex_if oq_X12_signToken_222 (t := 261) rfl rfl (fun (c1245 : x1243.toInt = x1244.toInt) => ?_) (fun (c1245 : ¬ (x1243.toInt = x1244.toInt)) => ?_)
            · refine ex_ic oq_X12_signToken_261 (m := 1) (by decide) (fun x1246 hx1246 => ?_)
              refine ex_go oq_X12_signToken_262 (t := 266) rfl rfl ?_
              refine ex_isA oq_X12_signToken_266 (fun L1247 gL1247_1 kL1247 => ?_)
              have gL1247_0 : cv_get L1247 0 = some (cv_r 111) := kL1247 0 _ (by decide) (fun _ => rfl) rfl
              exact st_267 hs9 hfin h1207 L1247 Th1207 Fh1207 (by omega) (by omega) (by omega) gL1247_0 x1246 gL1247_1 (by omega) (by omega)
            · refine ex_al oq_X12_signToken_225 rfl ?_
              obtain ⟨x1248, ax1248, rx1248, lx1248, ux1248⟩ := fi_which Th1207
              refine ex_gf oq_X12_signToken_226 Th1207 (k := 111) (d := 12) rfl rfl ax1248 ?_
              refine ex_bi oq_X12_signToken_229 (m := 43) (by decide) (fun x1249 hx1249 => ?_)
              refine ex_if oq_X12_signToken_231 (t := 261) rfl rfl (fun (c1250 : x1248.toInt = x1249.toInt) => ?_) (fun (c1250 : ¬ (x1248.toInt = x1249.toInt)) => ?_)
              · refine ex_ic oq_X12_signToken_261 (m := 1) (by decide) (fun x1251 hx1251 => ?_)
                refine ex_go oq_X12_signToken_262 (t := 266) rfl rfl ?_
                refine ex_isA oq_X12_signToken_266 (fun L1252 gL1252_1 kL1252 => ?_)
                have gL1252_0 : cv_get L1252 0 = some (cv_r 111) := kL1252 0 _ (by decide) (fun _ => rfl) rfl
                exact st_267 hs9 hfin h1207 L1252 Th1207 Fh1207 (by omega) (by omega) (by omega) gL1252_0 x1251 gL1252_1 (by omega) (by omega)
              · refine ex_al oq_X12_signToken_234 rfl ?_
                obtain ⟨x1253, ax1253, rx1253, lx1253, ux1253⟩ := fi_which Th1207
                refine ex_gf oq_X12_signToken_235 Th1207 (k := 111) (d := 12) rfl rfl ax1253 ?_
                refine ex_bi oq_X12_signToken_238 (m := 45) (by decide) (fun x1254 hx1254 => ?_)
                refine ex_if oq_X12_signToken_240 (t := 261) rfl rfl (fun (c1255 : x1253.toInt = x1254.toInt) => ?_) (fun (c1255 : ¬ (x1253.toInt = x1254.toInt)) => ?_)
                · refine ex_ic oq_X12_signToken_261 (m := 1) (by decide) (fun x1256 hx1256 => ?_)
                  refine ex_go oq_X12_signToken_262 (t := 266) rfl rfl ?_
                  refine ex_isA oq_X12_signToken_266 (fun L1257 gL1257_1 kL1257 => ?_)
                  have gL1257_0 : cv_get L1257 0 = some (cv_r 111) := kL1257 0 _ (by decide) (fun _ => rfl) rfl
                  exact st_267 hs9 hfin h1207 L1257 Th1207 Fh1207 (by omega) (by omega) (by omega) gL1257_0 x1256 gL1257_1 (by omega) (by omega)
                · refine ex_al oq_X12_signToken_243 rfl ?_
                  obtain ⟨x1258, ax1258, rx1258, lx1258, ux1258⟩ := fi_which Th1207
                  refine ex_gf oq_X12_signToken_244 Th1207 (k := 111) (d := 12) rfl rfl ax1258 ?_
                  refine ex_bi oq_X12_signToken_247 (m := 42) (by decide) (fun x1259 hx1259 => ?_)
                  refine ex_if oq_X12_signToken_249 (t := 261) rfl rfl (fun (c1260 : x1258.toInt = x1259.toInt) => ?_) (fun (c1260 : ¬ (x1258.toInt = x1259.toInt)) => ?_)
                  · refine ex_ic oq_X12_signToken_261 (m := 1) (by decide) (fun x1261 hx1261 => ?_)
                    refine ex_go oq_X12_signToken_262 (t := 266) rfl rfl ?_
                    refine ex_isA oq_X12_signToken_266 (fun L1262 gL1262_1 kL1262 => ?_)
                    have gL1262_0 : cv_get L1262 0 = some (cv_r 111) := kL1262 0 _ (by decide) (fun _ => rfl) rfl
                    exact st_267 hs9 hfin h1207 L1262 Th1207 Fh1207 (by omega) (by omega) (by omega) gL1262_0 x1261 gL1262_1 (by omega) (by omega)
                  · refine ex_al oq_X12_signToken_252 rfl ?_
                    obtain ⟨x1263, ax1263, rx1263, lx1263, ux1263⟩ := fi_which Th1207
                    refine ex_gf oq_X12_signToken_253 Th1207 (k := 111) (d := 12) rfl rfl ax1263 ?_
                    refine ex_bi oq_X12_signToken_256 (m := 47) (by decide) (fun x1264 hx1264 => ?_)
                    refine ex_if oq_X12_signToken_258 (t := 265) rfl rfl (fun (c1265 : ¬ x1263.toInt = x1264.toInt) => ?_) (fun (c1265 : ¬ (¬ x1263.toInt = x1264.toInt)) => ?_)
                    · refine ex_ic oq_X12_signToken_265 (m := 0) (by decide) (fun x1266 hx1266 => ?_)
                      refine ex_isA oq_X12_signToken_266 (fun L1267 gL1267_1 kL1267 => ?_)
                      have gL1267_0 : cv_get L1267 0 = some (cv_r 111) := kL1267 0 _ (by decide) (fun _ => rfl) rfl
                      exact st_267 hs9 hfin h1207 L1267 Th1207 Fh1207 (by omega) (by omega) (by omega) gL1267_0 x1266 gL1267_1 (by omega) (by omega)
                    · refine ex_ic oq_X12_signToken_261 (m := 1) (by decide) (fun x1268 hx1268 => ?_)
                      refine ex_go oq_X12_signToken_262 (t := 266) rfl rfl ?_
                      refine ex_isA oq_X12_signToken_266 (fun L1269 gL1269_1 kL1269 => ?_)
                      have gL1269_0 : cv_get L1269 0 = some (cv_r 111) := kL1269 0 _ (by decide) (fun _ => rfl) rfl
                      exact st_267 hs9 hfin h1207 L1269 Th1207 Fh1207 (by omega) (by omega) (by omega) gL1269_0 x1268 gL1269_1 (by omega) (by omega)
      · refine ex_al oq_X12_signToken_50 rfl ?_
        obtain ⟨x1270, ax1270, rx1270, lx1270, ux1270⟩ := fi_next Th1207
        refine ex_gf oq_X12_signToken_51 Th1207 (k := 111) (d := 12) rfl rfl ax1270 ?_
        refine ex_al oq_X12_signToken_54 rfl ?_
        obtain ⟨x1271, ax1271, rx1271, lx1271, ux1271⟩ := fi_stop Th1207
        refine ex_gf oq_X12_signToken_55 Th1207 (k := 111) (d := 12) rfl rfl ax1271 ?_
        refine ex_if oq_X12_signToken_58 (t := 73) rfl rfl (fun (c1272 : x1271.toInt ≤ x1270.toInt) => ?_) (fun (c1272 : ¬ (x1271.toInt ≤ x1270.toInt)) => ?_)
        · refine ex_ic oq_X12_signToken_73 (m := 0) (by decide) (fun x1273 hx1273 => ?_)
          refine ex_isA oq_X12_signToken_74 (fun L1274 gL1274_1 kL1274 => ?_)
          have gL1274_0 : cv_get L1274 0 = some (cv_r 111) := kL1274 0 _ (by decide) (fun _ => rfl) rfl
          exact st_75 hs9 hfin h1207 L1274 Th1207 Fh1207 (by omega) (by omega) (by omega) gL1274_0 x1273 gL1274_1 (by omega)
        · refine ex_al oq_X12_signToken_61 rfl ?_
          refine ex_gf oq_X12_signToken_62 Th1207 (k := 111) (d := 12) rfl rfl (fr_tape Th1207) ?_
          refine ex_al oq_X12_signToken_65 rfl ?_
          obtain ⟨x1275, ax1275, rx1275, lx1275, ux1275⟩ := fi_next Th1207
          refine ex_gf oq_X12_signToken_66 Th1207 (k := 111) (d := 12) rfl rfl ax1275 ?_
          refine ex_ia1 oq_X12_signToken_69 Th1207 (k := 112) (d := 51) (j := x1275.toInt.toNat) rfl rfl (by omega) (by omega) (fun x1276 hx1276 lx1276 ux1276 => ?_)
          refine ex_go oq_X12_signToken_70 (t := 74) rfl rfl ?_
          refine ex_isA oq_X12_signToken_74 (fun L1277 gL1277_1 kL1277 => ?_)
          have gL1277_0 : cv_get L1277 0 = some (cv_r 111) := kL1277 0 _ (by decide) (fun _ => rfl) rfl
          exact st_75 hs9 hfin h1207 L1277 Th1207 Fh1207 (by omega) (by omega) (by omega) gL1277_0 x1276 gL1277_1 (by omega)
theorem oq_X12_token_0 : cw_ho 163 0 (.aload_n 0) 1 0 0 0 := rfl
theorem oq_X12_token_1 : cw_ho 163 1 (.getfield 151) 3 12 7 0 := rfl
theorem oq_X12_token_4 : cw_ho 163 4 (.aload_n 0) 1 0 0 0 := rfl
theorem oq_X12_token_5 : cw_ho 163 5 (.getfield 148) 3 12 6 0 := rfl
theorem oq_X12_token_8 : cw_ho 163 8 (.if_icmp .ge 44) 3 0 0 0 := rfl
theorem oq_X12_token_11 : cw_ho 163 11 (.aload_n 0) 1 0 0 0 := rfl
theorem oq_X12_token_12 : cw_ho 163 12 (.getfield 7) 3 12 0 4 := rfl
theorem oq_X12_token_15 : cw_ho 163 15 (.aload_n 0) 1 0 0 0 := rfl
theorem oq_X12_token_16 : cw_ho 163 16 (.getfield 151) 3 12 7 0 := rfl
theorem oq_X12_token_19 : cw_ho 163 19 (.iaload) 1 0 0 0 := rfl
theorem oq_X12_token_20 : cw_ho 163 20 (.bipush 10) 2 0 0 0 := rfl
theorem oq_X12_token_22 : cw_ho 163 22 (.if_icmp .eq 17) 3 0 0 0 := rfl
theorem oq_X12_token_25 : cw_ho 163 25 (.aload_n 0) 1 0 0 0 := rfl
theorem oq_X12_token_26 : cw_ho 163 26 (.getfield 7) 3 12 0 4 := rfl
theorem oq_X12_token_29 : cw_ho 163 29 (.aload_n 0) 1 0 0 0 := rfl
theorem oq_X12_token_30 : cw_ho 163 30 (.getfield 151) 3 12 7 0 := rfl
theorem oq_X12_token_33 : cw_ho 163 33 (.iaload) 1 0 0 0 := rfl
theorem oq_X12_token_34 : cw_ho 163 34 (.bipush 32) 2 0 0 0 := rfl
theorem oq_X12_token_36 : cw_ho 163 36 (.if_icmp .ne 16) 3 0 0 0 := rfl
theorem oq_X12_token_39 : cw_ho 163 39 (.aload_n 0) 1 0 0 0 := rfl
theorem oq_X12_token_40 : cw_ho 163 40 (.dup) 1 0 0 0 := rfl
theorem oq_X12_token_41 : cw_ho 163 41 (.getfield 151) 3 12 7 0 := rfl
theorem oq_X12_token_44 : cw_ho 163 44 (.iconst 1) 1 0 0 0 := rfl
theorem oq_X12_token_45 : cw_ho 163 45 (.iadd) 1 0 0 0 := rfl
theorem oq_X12_token_46 : cw_ho 163 46 (.putfield 151) 3 12 7 0 := rfl
theorem oq_X12_token_49 : cw_ho 163 49 (.goto (-49)) 3 0 0 0 := rfl
theorem oq_X12_token_52 : cw_ho 163 52 (.aload_n 0) 1 0 0 0 := rfl
theorem oq_X12_token_53 : cw_ho 163 53 (.aload_n 0) 1 0 0 0 := rfl
theorem oq_X12_token_54 : cw_ho 163 54 (.getfield 151) 3 12 7 0 := rfl
theorem oq_X12_token_57 : cw_ho 163 57 (.putfield 145) 3 12 10 0 := rfl
theorem oq_X12_token_60 : cw_ho 163 60 (.aload_n 0) 1 0 0 0 := rfl
theorem oq_X12_token_61 : cw_ho 163 61 (.getfield 151) 3 12 7 0 := rfl
theorem oq_X12_token_64 : cw_ho 163 64 (.aload_n 0) 1 0 0 0 := rfl
theorem oq_X12_token_65 : cw_ho 163 65 (.getfield 148) 3 12 6 0 := rfl
theorem oq_X12_token_68 : cw_ho 163 68 (.if_icmp .ne 11) 3 0 0 0 := rfl
theorem oq_X12_token_71 : cw_ho 163 71 (.aload_n 0) 1 0 0 0 := rfl
theorem oq_X12_token_72 : cw_ho 163 72 (.iconst 0) 1 0 0 0 := rfl
theorem oq_X12_token_73 : cw_ho 163 73 (.putfield 154) 3 12 8 0 := rfl
theorem oq_X12_token_76 : cw_ho 163 76 (.goto 206) 3 0 0 0 := rfl
theorem oq_X12_token_79 : cw_ho 163 79 (.aload_n 0) 1 0 0 0 := rfl
theorem oq_X12_token_80 : cw_ho 163 80 (.aload_n 0) 1 0 0 0 := rfl
theorem oq_X12_token_81 : cw_ho 163 81 (.getfield 151) 3 12 7 0 := rfl
theorem oq_X12_token_84 : cw_ho 163 84 (.invokevirtual 157) 3 161 1 12 := rfl
theorem oq_X12_token_87 : cw_ho 163 87 (.ifCond .eq 105) 3 0 0 0 := rfl
theorem oq_X12_token_90 : cw_ho 163 90 (.aload_n 0) 1 0 0 0 := rfl
theorem oq_X12_token_91 : cw_ho 163 91 (.aload_n 0) 1 0 0 0 := rfl
theorem oq_X12_token_92 : cw_ho 163 92 (.getfield 151) 3 12 7 0 := rfl
theorem oq_X12_token_95 : cw_ho 163 95 (.invokevirtual 157) 3 161 1 12 := rfl
theorem oq_X12_token_98 : cw_ho 163 98 (.ifCond .eq 16) 3 0 0 0 := rfl
theorem oq_X12_token_101 : cw_ho 163 101 (.aload_n 0) 1 0 0 0 := rfl
theorem oq_X12_token_102 : cw_ho 163 102 (.dup) 1 0 0 0 := rfl
theorem oq_X12_token_103 : cw_ho 163 103 (.getfield 151) 3 12 7 0 := rfl
theorem oq_X12_token_106 : cw_ho 163 106 (.iconst 1) 1 0 0 0 := rfl
theorem oq_X12_token_107 : cw_ho 163 107 (.iadd) 1 0 0 0 := rfl
theorem oq_X12_token_108 : cw_ho 163 108 (.putfield 151) 3 12 7 0 := rfl
theorem oq_X12_token_111 : cw_ho 163 111 (.goto (-21)) 3 0 0 0 := rfl
theorem oq_X12_token_114 : cw_ho 163 114 (.aload_n 0) 1 0 0 0 := rfl
theorem oq_X12_token_115 : cw_ho 163 115 (.aload_n 0) 1 0 0 0 := rfl
theorem oq_X12_token_116 : cw_ho 163 116 (.aload_n 0) 1 0 0 0 := rfl
theorem oq_X12_token_117 : cw_ho 163 117 (.getfield 145) 3 12 10 0 := rfl
theorem oq_X12_token_120 : cw_ho 163 120 (.aload_n 0) 1 0 0 0 := rfl
theorem oq_X12_token_121 : cw_ho 163 121 (.getfield 151) 3 12 7 0 := rfl
theorem oq_X12_token_124 : cw_ho 163 124 (.invokevirtual 161) 3 160 2 12 := rfl
theorem oq_X12_token_127 : cw_ho 163 127 (.putfield 165) 3 12 9 0 := rfl
theorem oq_X12_token_130 : cw_ho 163 130 (.aload_n 0) 1 0 0 0 := rfl
theorem oq_X12_token_131 : cw_ho 163 131 (.aload_n 0) 1 0 0 0 := rfl
theorem oq_X12_token_132 : cw_ho 163 132 (.getfield 165) 3 12 9 0 := rfl
theorem oq_X12_token_135 : cw_ho 163 135 (.ifCond .lt 7) 3 0 0 0 := rfl
theorem oq_X12_token_138 : cw_ho 163 138 (.iconst 1) 1 0 0 0 := rfl
theorem oq_X12_token_139 : cw_ho 163 139 (.goto 23) 3 0 0 0 := rfl
theorem oq_X12_token_142 : cw_ho 163 142 (.aload_n 0) 1 0 0 0 := rfl
theorem oq_X12_token_143 : cw_ho 163 143 (.getfield 151) 3 12 7 0 := rfl
theorem oq_X12_token_146 : cw_ho 163 146 (.aload_n 0) 1 0 0 0 := rfl
theorem oq_X12_token_147 : cw_ho 163 147 (.getfield 145) 3 12 10 0 := rfl
theorem oq_X12_token_150 : cw_ho 163 150 (.isub) 1 0 0 0 := rfl
theorem oq_X12_token_151 : cw_ho 163 151 (.bipush 6) 2 0 0 0 := rfl
theorem oq_X12_token_153 : cw_ho 163 153 (.if_icmp .le 8) 3 0 0 0 := rfl
theorem oq_X12_token_156 : cw_ho 163 156 (.bipush 6) 2 0 0 0 := rfl
theorem oq_X12_token_158 : cw_ho 163 158 (.goto 4) 3 0 0 0 := rfl
theorem oq_X12_token_161 : cw_ho 163 161 (.iconst 2) 1 0 0 0 := rfl
theorem oq_X12_token_162 : cw_ho 163 162 (.putfield 154) 3 12 8 0 := rfl
theorem oq_X12_token_165 : cw_ho 163 165 (.aload_n 0) 1 0 0 0 := rfl
theorem oq_X12_token_166 : cw_ho 163 166 (.getfield 154) 3 12 8 0 := rfl
theorem oq_X12_token_169 : cw_ho 163 169 (.iconst 2) 1 0 0 0 := rfl
theorem oq_X12_token_170 : cw_ho 163 170 (.if_icmp .ne 112) 3 0 0 0 := rfl
theorem oq_X12_token_173 : cw_ho 163 173 (.aload_n 0) 1 0 0 0 := rfl
theorem oq_X12_token_174 : cw_ho 163 174 (.aload_n 0) 1 0 0 0 := rfl
theorem oq_X12_token_175 : cw_ho 163 175 (.aload_n 0) 1 0 0 0 := rfl
theorem oq_X12_token_176 : cw_ho 163 176 (.getfield 145) 3 12 10 0 := rfl
theorem oq_X12_token_179 : cw_ho 163 179 (.aload_n 0) 1 0 0 0 := rfl
theorem oq_X12_token_180 : cw_ho 163 180 (.getfield 151) 3 12 7 0 := rfl
theorem oq_X12_token_183 : cw_ho 163 183 (.invokevirtual 168) 3 165 2 12 := rfl
theorem oq_X12_token_186 : cw_ho 163 186 (.putfield 165) 3 12 9 0 := rfl
theorem oq_X12_token_189 : cw_ho 163 189 (.goto 93) 3 0 0 0 := rfl
theorem oq_X12_token_192 : cw_ho 163 192 (.aload_n 0) 1 0 0 0 := rfl
theorem oq_X12_token_193 : cw_ho 163 193 (.aload_n 0) 1 0 0 0 := rfl
theorem oq_X12_token_194 : cw_ho 163 194 (.getfield 151) 3 12 7 0 := rfl
theorem oq_X12_token_197 : cw_ho 163 197 (.invokevirtual 171) 3 162 1 12 := rfl
theorem oq_X12_token_200 : cw_ho 163 200 (.ifCond .eq 78) 3 0 0 0 := rfl
theorem oq_X12_token_203 : cw_ho 163 203 (.aload_n 0) 1 0 0 0 := rfl
theorem oq_X12_token_204 : cw_ho 163 204 (.iconst 3) 1 0 0 0 := rfl
theorem oq_X12_token_205 : cw_ho 163 205 (.putfield 154) 3 12 8 0 := rfl
theorem oq_X12_token_208 : cw_ho 163 208 (.aload_n 0) 1 0 0 0 := rfl
theorem oq_X12_token_209 : cw_ho 163 209 (.iconst 0) 1 0 0 0 := rfl
theorem oq_X12_token_210 : cw_ho 163 210 (.putfield 165) 3 12 9 0 := rfl
theorem oq_X12_token_213 : cw_ho 163 213 (.aload_n 0) 1 0 0 0 := rfl
theorem oq_X12_token_214 : cw_ho 163 214 (.aload_n 0) 1 0 0 0 := rfl
theorem oq_X12_token_215 : cw_ho 163 215 (.getfield 151) 3 12 7 0 := rfl
theorem oq_X12_token_218 : cw_ho 163 218 (.invokevirtual 171) 3 162 1 12 := rfl
theorem oq_X12_token_221 : cw_ho 163 221 (.ifCond .eq 61) 3 0 0 0 := rfl
theorem oq_X12_token_224 : cw_ho 163 224 (.aload_n 0) 1 0 0 0 := rfl
theorem oq_X12_token_225 : cw_ho 163 225 (.aload_n 0) 1 0 0 0 := rfl
theorem oq_X12_token_226 : cw_ho 163 226 (.getfield 165) 3 12 9 0 := rfl
theorem oq_X12_token_229 : cw_ho 163 229 (.sipush 9999) 3 0 0 0 := rfl
theorem oq_X12_token_232 : cw_ho 163 232 (.if_icmp .le 10) 3 0 0 0 := rfl
theorem oq_X12_token_235 : cw_ho 163 235 (.aload_n 0) 1 0 0 0 := rfl
theorem oq_X12_token_236 : cw_ho 163 236 (.getfield 165) 3 12 9 0 := rfl
theorem oq_X12_token_239 : cw_ho 163 239 (.goto 23) 3 0 0 0 := rfl
theorem oq_X12_token_242 : cw_ho 163 242 (.bipush 10) 2 0 0 0 := rfl
theorem oq_X12_token_244 : cw_ho 163 244 (.aload_n 0) 1 0 0 0 := rfl
theorem oq_X12_token_245 : cw_ho 163 245 (.getfield 165) 3 12 9 0 := rfl
theorem oq_X12_token_248 : cw_ho 163 248 (.imul) 1 0 0 0 := rfl
theorem oq_X12_token_249 : cw_ho 163 249 (.aload_n 0) 1 0 0 0 := rfl
theorem oq_X12_token_250 : cw_ho 163 250 (.getfield 7) 3 12 0 4 := rfl
theorem oq_X12_token_253 : cw_ho 163 253 (.aload_n 0) 1 0 0 0 := rfl
theorem oq_X12_token_254 : cw_ho 163 254 (.getfield 151) 3 12 7 0 := rfl
theorem oq_X12_token_257 : cw_ho 163 257 (.iaload) 1 0 0 0 := rfl
theorem oq_X12_token_258 : cw_ho 163 258 (.iadd) 1 0 0 0 := rfl
theorem oq_X12_token_259 : cw_ho 163 259 (.bipush 48) 2 0 0 0 := rfl
theorem oq_X12_token_261 : cw_ho 163 261 (.isub) 1 0 0 0 := rfl
theorem oq_X12_token_262 : cw_ho 163 262 (.putfield 165) 3 12 9 0 := rfl
theorem oq_X12_token_265 : cw_ho 163 265 (.aload_n 0) 1 0 0 0 := rfl
theorem oq_X12_token_266 : cw_ho 163 266 (.dup) 1 0 0 0 := rfl
theorem oq_X12_token_267 : cw_ho 163 267 (.getfield 151) 3 12 7 0 := rfl
theorem oq_X12_token_270 : cw_ho 163 270 (.iconst 1) 1 0 0 0 := rfl
theorem oq_X12_token_271 : cw_ho 163 271 (.iadd) 1 0 0 0 := rfl
theorem oq_X12_token_272 : cw_ho 163 272 (.putfield 151) 3 12 7 0 := rfl
theorem oq_X12_token_275 : cw_ho 163 275 (.goto (-62)) 3 0 0 0 := rfl
theorem oq_X12_token_278 : cw_ho 163 278 (.aload_n 0) 1 0 0 0 := rfl
theorem oq_X12_token_279 : cw_ho 163 279 (.invokevirtual 174) 3 164 0 12 := rfl
theorem oq_X12_token_282 : cw_ho 163 282 (.return_) 1 0 0 0 := rfl
theorem tk_213 {h0 : cv_H} (hs9 : ri_at h0 111 6 ≤ 900) (hP : cw_PP G h0) (hfin : ∀ h, cw_T G h → cw_Fr cw_Ds cw_sh kk_X12_token.2.2.2.2.2.1 h0 h → cw_PP G h → ri_at h 111 6 = ri_at h0 111 6 → ri_at h0 111 7 ≤ ri_at h 111 7 → (ri_at h 111 8 = 0 ∨ ri_at h0 111 7 < ri_at h 111 7) → Q (none, h)) (D : Prop) : ∀ (N : Nat) (h : cv_H), cw_T G h → cw_Fr cw_Ds cw_sh kk_X12_token.2.2.2.2.2.1 h0 h → ri_at h 111 6 = ri_at h0 111 6 → ri_at h 111 7 ≤ ri_at h 111 6 → ri_at h0 111 7 < ri_at h 111 7 → ri_at h 111 8 = 3 → (ri_at h 111 6 - ri_at h 111 7).toNat ≤ N → cw_X X 163 Q 213 (cv_ent 0 [cv_r 111]) [] h := by
  intro N
  induction N with
  | zero =>
    intro h Th Fh n1 n2 n3 n4 hN
    refine ex_al oq_X12_token_213 rfl ?_
    refine ex_al oq_X12_token_214 rfl ?_
    obtain ⟨x1, ax1, rx1, lx1, ux1⟩ := fi_next Th
    refine ex_gf oq_X12_token_215 Th (k := 111) (d := 12) rfl rfl ax1 ?_
    refine ex_cv oq_X12_token_218 (by decide) Th (k := 111) (d := 12) (as := [cv_i x1]) (stk := []) rfl rfl rfl rfl rfl rfl ⟨rfl, rfl⟩ (R := fun o => ∃ x : Int32, o = (some (cv_i x), h) ∧ 0 ≤ x.toInt ∧ x.toInt ≤ 1 ∧ (x.toInt = 0 ∨ x1.toInt < ri_at h 111 6) ∧ (x.toInt = 1 ∧ (ri_at h 111 7 < ri_at h 111 6 ∧ 48 ≤ ri_at h 112 (ri_at h 111 7).toNat ∧ ri_at h 112 (ri_at h 111 7).toNat ≤ 57) ∨ x.toInt = 0 ∧ ¬ (ri_at h 111 7 < ri_at h 111 6 ∧ 48 ≤ ri_at h 112 (ri_at h 111 7).toNat ∧ ri_at h 112 (ri_at h 111 7).toNat ≤ 57))) (sp_isDigit Th x1 (by omega) (by omega) (by omega) (fun x x0 x1 x2 x3 => ⟨x, rfl, x0, x1, x2, x3⟩)) (fun ox2 hox2 => ?_)
    obtain ⟨x2, rfl, lx2, ux2, tx2, dx2⟩ := hox2
    show cw_X _ _ _ _ _ [cv_i x2] h
    refine ex_if0 oq_X12_token_221 (t := 282) rfl rfl (fun (c3 : x2.toInt = 0) => ?_) (fun (c3 : ¬ (x2.toInt = 0)) => ?_)
    · exact ex_retv oq_X12_token_282 rfl (hfin h Th Fh (pp_fr1 (by decide +kernel) hP Fh ⟨by omega, by intro q; omega, by intro q; omega⟩) (by omega) (by omega) (by omega))
    · refine ex_al oq_X12_token_224 rfl ?_
      refine ex_al oq_X12_token_225 rfl ?_
      obtain ⟨x4, ax4, rx4, lx4, ux4⟩ := fi_which Th
      refine ex_gf oq_X12_token_226 Th (k := 111) (d := 12) rfl rfl ax4 ?_
      refine ex_si oq_X12_token_229 (m := 9999) (by decide) (fun x5 hx5 => ?_)
      refine ex_if oq_X12_token_232 (t := 242) rfl rfl (fun (c6 : x4.toInt ≤ x5.toInt) => ?_) (fun (c6 : ¬ (x4.toInt ≤ x5.toInt)) => ?_)
      · refine ex_bi oq_X12_token_242 (m := 10) (by decide) (fun x7 hx7 => ?_)
        refine ex_al oq_X12_token_244 rfl ?_
        obtain ⟨x8, ax8, rx8, lx8, ux8⟩ := fi_which Th
        refine ex_gf oq_X12_token_245 Th (k := 111) (d := 12) rfl rfl ax8 ?_
        refine ex_any (f := fun x y => some x) oq_X12_token_248 rfl (fun x9 => ?_)
        refine ex_al oq_X12_token_249 rfl ?_
        refine ex_gf oq_X12_token_250 Th (k := 111) (d := 12) rfl rfl (fr_tape Th) ?_
        refine ex_al oq_X12_token_253 rfl ?_
        obtain ⟨x10, ax10, rx10, lx10, ux10⟩ := fi_next Th
        refine ex_gf oq_X12_token_254 Th (k := 111) (d := 12) rfl rfl ax10 ?_
        refine ex_ia1 oq_X12_token_257 Th (k := 112) (d := 51) (j := x10.toInt.toNat) rfl rfl (by omega) (by omega) (fun x11 hx11 lx11 ux11 => ?_)
        refine ex_any (f := fun x y => some x) oq_X12_token_258 rfl (fun x12 => ?_)
        refine ex_bi oq_X12_token_259 (m := 48) (by decide) (fun x13 hx13 => ?_)
        refine ex_any (f := fun x y => some x) oq_X12_token_261 rfl (fun x14 => ?_)
        refine ex_pfi oq_X12_token_262 Th (k := 111) (d := 12) rfl rfl rfl (cw_i32 _).1 (cw_i32 _).2 (fun h15 Th15 wh15 => ?_)
        have Fh15 : cw_Fr cw_Ds cw_sh kk_X12_token.2.2.2.2.2.1 h0 h15 := cw_Fr_tr Fh (cw_Fr_wrf wh15 (k := 111) (d := 12) rfl rfl (by decide +kernel))
        have eh15_7 : ri_at h15 111 7 = ri_at h 111 7 := ri_ne wh15 (by decide)
        have eh15_6 : ri_at h15 111 6 = ri_at h 111 6 := ri_ne wh15 (by decide)
        have eh15_8 : ri_at h15 111 8 = ri_at h 111 8 := ri_ne wh15 (by decide)
        have eh15_9 : ri_at h15 111 9 = x14.toInt := ri_self wh15
        have eh15_10 : ri_at h15 111 10 = ri_at h 111 10 := ri_ne wh15 (by decide)
        refine ex_al oq_X12_token_265 rfl ?_
        refine ex_dup oq_X12_token_266 rfl ?_
        obtain ⟨x16, ax16, rx16, lx16, ux16⟩ := fi_next Th15
        refine ex_gf oq_X12_token_267 Th15 (k := 111) (d := 12) rfl rfl ax16 ?_
        refine ex_ic oq_X12_token_270 (m := 1) (by decide) (fun x17 hx17 => ?_)
        refine ex_add oq_X12_token_271 (by omega) (fun x18 hx18 => ?_)
        refine ex_pfi oq_X12_token_272 Th15 (k := 111) (d := 12) rfl rfl rfl (by omega) (by omega) (fun h19 Th19 wh19 => ?_)
        have Fh19 : cw_Fr cw_Ds cw_sh kk_X12_token.2.2.2.2.2.1 h0 h19 := cw_Fr_tr Fh15 (cw_Fr_wrf wh19 (k := 111) (d := 12) rfl rfl (by decide +kernel))
        have eh19_7 : ri_at h19 111 7 = x18.toInt := ri_self wh19
        have eh19_6 : ri_at h19 111 6 = ri_at h15 111 6 := ri_ne wh19 (by decide)
        have eh19_8 : ri_at h19 111 8 = ri_at h15 111 8 := ri_ne wh19 (by decide)
        have eh19_9 : ri_at h19 111 9 = ri_at h15 111 9 := ri_ne wh19 (by decide)
        have eh19_10 : ri_at h19 111 10 = ri_at h15 111 10 := ri_ne wh19 (by decide)
        refine ex_go oq_X12_token_275 (t := 213) rfl rfl ?_
        exfalso; omega -- h19 Th19 Fh19 (by omega) (by omega) (by omega) (by omega) (by omega)
      · refine ex_al oq_X12_token_235 rfl ?_
        obtain ⟨x20, ax20, rx20, lx20, ux20⟩ := fi_which Th
        refine ex_gf oq_X12_token_236 Th (k := 111) (d := 12) rfl rfl ax20 ?_
        refine ex_go oq_X12_token_239 (t := 262) rfl rfl ?_
        refine ex_pfi oq_X12_token_262 Th (k := 111) (d := 12) rfl rfl rfl (cw_i32 _).1 (cw_i32 _).2 (fun h21 Th21 wh21 => ?_)
        have Fh21 : cw_Fr cw_Ds cw_sh kk_X12_token.2.2.2.2.2.1 h0 h21 := cw_Fr_tr Fh (cw_Fr_wrf wh21 (k := 111) (d := 12) rfl rfl (by decide +kernel))
        have eh21_7 : ri_at h21 111 7 = ri_at h 111 7 := ri_ne wh21 (by decide)
        have eh21_6 : ri_at h21 111 6 = ri_at h 111 6 := ri_ne wh21 (by decide)
        have eh21_8 : ri_at h21 111 8 = ri_at h 111 8 := ri_ne wh21 (by decide)
        have eh21_9 : ri_at h21 111 9 = x20.toInt := ri_self wh21
        have eh21_10 : ri_at h21 111 10 = ri_at h 111 10 := ri_ne wh21 (by decide)
        refine ex_al oq_X12_token_265 rfl ?_
        refine ex_dup oq_X12_token_266 rfl ?_
        obtain ⟨x22, ax22, rx22, lx22, ux22⟩ := fi_next Th21
        refine ex_gf oq_X12_token_267 Th21 (k := 111) (d := 12) rfl rfl ax22 ?_
        refine ex_ic oq_X12_token_270 (m := 1) (by decide) (fun x23 hx23 => ?_)
        refine ex_add oq_X12_token_271 (by omega) (fun x24 hx24 => ?_)
        refine ex_pfi oq_X12_token_272 Th21 (k := 111) (d := 12) rfl rfl rfl (by omega) (by omega) (fun h25 Th25 wh25 => ?_)
        have Fh25 : cw_Fr cw_Ds cw_sh kk_X12_token.2.2.2.2.2.1 h0 h25 := cw_Fr_tr Fh21 (cw_Fr_wrf wh25 (k := 111) (d := 12) rfl rfl (by decide +kernel))
        have eh25_7 : ri_at h25 111 7 = x24.toInt := ri_self wh25
        have eh25_6 : ri_at h25 111 6 = ri_at h21 111 6 := ri_ne wh25 (by decide)
        have eh25_8 : ri_at h25 111 8 = ri_at h21 111 8 := ri_ne wh25 (by decide)
        have eh25_9 : ri_at h25 111 9 = ri_at h21 111 9 := ri_ne wh25 (by decide)
        have eh25_10 : ri_at h25 111 10 = ri_at h21 111 10 := ri_ne wh25 (by decide)
        refine ex_go oq_X12_token_275 (t := 213) rfl rfl ?_
        exfalso; omega -- h25 Th25 Fh25 (by omega) (by omega) (by omega) (by omega) (by omega)
  | succ N ih =>
    intro h Th Fh n1 n2 n3 n4 hN
    refine ex_al oq_X12_token_213 rfl ?_
    refine ex_al oq_X12_token_214 rfl ?_
    obtain ⟨x1, ax1, rx1, lx1, ux1⟩ := fi_next Th
    refine ex_gf oq_X12_token_215 Th (k := 111) (d := 12) rfl rfl ax1 ?_
    refine ex_cv oq_X12_token_218 (by decide) Th (k := 111) (d := 12) (as := [cv_i x1]) (stk := []) rfl rfl rfl rfl rfl rfl ⟨rfl, rfl⟩ (R := fun o => ∃ x : Int32, o = (some (cv_i x), h) ∧ 0 ≤ x.toInt ∧ x.toInt ≤ 1 ∧ (x.toInt = 0 ∨ x1.toInt < ri_at h 111 6) ∧ (x.toInt = 1 ∧ (ri_at h 111 7 < ri_at h 111 6 ∧ 48 ≤ ri_at h 112 (ri_at h 111 7).toNat ∧ ri_at h 112 (ri_at h 111 7).toNat ≤ 57) ∨ x.toInt = 0 ∧ ¬ (ri_at h 111 7 < ri_at h 111 6 ∧ 48 ≤ ri_at h 112 (ri_at h 111 7).toNat ∧ ri_at h 112 (ri_at h 111 7).toNat ≤ 57))) (sp_isDigit Th x1 (by omega) (by omega) (by omega) (fun x x0 x1 x2 x3 => ⟨x, rfl, x0, x1, x2, x3⟩)) (fun ox2 hox2 => ?_)
    obtain ⟨x2, rfl, lx2, ux2, tx2, dx2⟩ := hox2
    show cw_X _ _ _ _ _ [cv_i x2] h
    refine ex_if0 oq_X12_token_221 (t := 282) rfl rfl (fun (c3 : x2.toInt = 0) => ?_) (fun (c3 : ¬ (x2.toInt = 0)) => ?_)
    · exact ex_retv oq_X12_token_282 rfl (hfin h Th Fh (pp_fr1 (by decide +kernel) hP Fh ⟨by omega, by intro q; omega, by intro q; omega⟩) (by omega) (by omega) (by omega))
    · refine ex_al oq_X12_token_224 rfl ?_
      refine ex_al oq_X12_token_225 rfl ?_
      obtain ⟨x4, ax4, rx4, lx4, ux4⟩ := fi_which Th
      refine ex_gf oq_X12_token_226 Th (k := 111) (d := 12) rfl rfl ax4 ?_
      refine ex_si oq_X12_token_229 (m := 9999) (by decide) (fun x5 hx5 => ?_)
      refine ex_if oq_X12_token_232 (t := 242) rfl rfl (fun (c6 : x4.toInt ≤ x5.toInt) => ?_) (fun (c6 : ¬ (x4.toInt ≤ x5.toInt)) => ?_)
      · refine ex_bi oq_X12_token_242 (m := 10) (by decide) (fun x7 hx7 => ?_)
        refine ex_al oq_X12_token_244 rfl ?_
        obtain ⟨x8, ax8, rx8, lx8, ux8⟩ := fi_which Th
        refine ex_gf oq_X12_token_245 Th (k := 111) (d := 12) rfl rfl ax8 ?_
        refine ex_any (f := fun x y => some x) oq_X12_token_248 rfl (fun x9 => ?_)
        refine ex_al oq_X12_token_249 rfl ?_
        refine ex_gf oq_X12_token_250 Th (k := 111) (d := 12) rfl rfl (fr_tape Th) ?_
        refine ex_al oq_X12_token_253 rfl ?_
        obtain ⟨x10, ax10, rx10, lx10, ux10⟩ := fi_next Th
        refine ex_gf oq_X12_token_254 Th (k := 111) (d := 12) rfl rfl ax10 ?_
        refine ex_ia1 oq_X12_token_257 Th (k := 112) (d := 51) (j := x10.toInt.toNat) rfl rfl (by omega) (by omega) (fun x11 hx11 lx11 ux11 => ?_)
        refine ex_any (f := fun x y => some x) oq_X12_token_258 rfl (fun x12 => ?_)
        refine ex_bi oq_X12_token_259 (m := 48) (by decide) (fun x13 hx13 => ?_)
        refine ex_any (f := fun x y => some x) oq_X12_token_261 rfl (fun x14 => ?_)
        refine ex_pfi oq_X12_token_262 Th (k := 111) (d := 12) rfl rfl rfl (cw_i32 _).1 (cw_i32 _).2 (fun h15 Th15 wh15 => ?_)
        have Fh15 : cw_Fr cw_Ds cw_sh kk_X12_token.2.2.2.2.2.1 h0 h15 := cw_Fr_tr Fh (cw_Fr_wrf wh15 (k := 111) (d := 12) rfl rfl (by decide +kernel))
        have eh15_7 : ri_at h15 111 7 = ri_at h 111 7 := ri_ne wh15 (by decide)
        have eh15_6 : ri_at h15 111 6 = ri_at h 111 6 := ri_ne wh15 (by decide)
        have eh15_8 : ri_at h15 111 8 = ri_at h 111 8 := ri_ne wh15 (by decide)
        have eh15_9 : ri_at h15 111 9 = x14.toInt := ri_self wh15
        have eh15_10 : ri_at h15 111 10 = ri_at h 111 10 := ri_ne wh15 (by decide)
        refine ex_al oq_X12_token_265 rfl ?_
        refine ex_dup oq_X12_token_266 rfl ?_
        obtain ⟨x16, ax16, rx16, lx16, ux16⟩ := fi_next Th15
        refine ex_gf oq_X12_token_267 Th15 (k := 111) (d := 12) rfl rfl ax16 ?_
        refine ex_ic oq_X12_token_270 (m := 1) (by decide) (fun x17 hx17 => ?_)
        refine ex_add oq_X12_token_271 (by omega) (fun x18 hx18 => ?_)
        refine ex_pfi oq_X12_token_272 Th15 (k := 111) (d := 12) rfl rfl rfl (by omega) (by omega) (fun h19 Th19 wh19 => ?_)
        have Fh19 : cw_Fr cw_Ds cw_sh kk_X12_token.2.2.2.2.2.1 h0 h19 := cw_Fr_tr Fh15 (cw_Fr_wrf wh19 (k := 111) (d := 12) rfl rfl (by decide +kernel))
        have eh19_7 : ri_at h19 111 7 = x18.toInt := ri_self wh19
        have eh19_6 : ri_at h19 111 6 = ri_at h15 111 6 := ri_ne wh19 (by decide)
        have eh19_8 : ri_at h19 111 8 = ri_at h15 111 8 := ri_ne wh19 (by decide)
        have eh19_9 : ri_at h19 111 9 = ri_at h15 111 9 := ri_ne wh19 (by decide)
        have eh19_10 : ri_at h19 111 10 = ri_at h15 111 10 := ri_ne wh19 (by decide)
        refine ex_go oq_X12_token_275 (t := 213) rfl rfl ?_
        exact ih h19 Th19 Fh19 (by omega) (by omega) (by omega) (by omega) (by omega)
      · refine ex_al oq_X12_token_235 rfl ?_
        obtain ⟨x20, ax20, rx20, lx20, ux20⟩ := fi_which Th
        refine ex_gf oq_X12_token_236 Th (k := 111) (d := 12) rfl rfl ax20 ?_
        refine ex_go oq_X12_token_239 (t := 262) rfl rfl ?_
        refine ex_pfi oq_X12_token_262 Th (k := 111) (d := 12) rfl rfl rfl (cw_i32 _).1 (cw_i32 _).2 (fun h21 Th21 wh21 => ?_)
        have Fh21 : cw_Fr cw_Ds cw_sh kk_X12_token.2.2.2.2.2.1 h0 h21 := cw_Fr_tr Fh (cw_Fr_wrf wh21 (k := 111) (d := 12) rfl rfl (by decide +kernel))
        have eh21_7 : ri_at h21 111 7 = ri_at h 111 7 := ri_ne wh21 (by decide)
        have eh21_6 : ri_at h21 111 6 = ri_at h 111 6 := ri_ne wh21 (by decide)
        have eh21_8 : ri_at h21 111 8 = ri_at h 111 8 := ri_ne wh21 (by decide)
        have eh21_9 : ri_at h21 111 9 = x20.toInt := ri_self wh21
        have eh21_10 : ri_at h21 111 10 = ri_at h 111 10 := ri_ne wh21 (by decide)
        refine ex_al oq_X12_token_265 rfl ?_
        refine ex_dup oq_X12_token_266 rfl ?_
        obtain ⟨x22, ax22, rx22, lx22, ux22⟩ := fi_next Th21
        refine ex_gf oq_X12_token_267 Th21 (k := 111) (d := 12) rfl rfl ax22 ?_
        refine ex_ic oq_X12_token_270 (m := 1) (by decide) (fun x23 hx23 => ?_)
        refine ex_add oq_X12_token_271 (by omega) (fun x24 hx24 => ?_)
        refine ex_pfi oq_X12_token_272 Th21 (k := 111) (d := 12) rfl rfl rfl (by omega) (by omega) (fun h25 Th25 wh25 => ?_)
        have Fh25 : cw_Fr cw_Ds cw_sh kk_X12_token.2.2.2.2.2.1 h0 h25 := cw_Fr_tr Fh21 (cw_Fr_wrf wh25 (k := 111) (d := 12) rfl rfl (by decide +kernel))
        have eh25_7 : ri_at h25 111 7 = x24.toInt := ri_self wh25
        have eh25_6 : ri_at h25 111 6 = ri_at h21 111 6 := ri_ne wh25 (by decide)
        have eh25_8 : ri_at h25 111 8 = ri_at h21 111 8 := ri_ne wh25 (by decide)
        have eh25_9 : ri_at h25 111 9 = ri_at h21 111 9 := ri_ne wh25 (by decide)
        have eh25_10 : ri_at h25 111 10 = ri_at h21 111 10 := ri_ne wh25 (by decide)
        refine ex_go oq_X12_token_275 (t := 213) rfl rfl ?_
        exact ih h25 Th25 Fh25 (by omega) (by omega) (by omega) (by omega) (by omega)
theorem tk_90 {h0 : cv_H} (hs9 : ri_at h0 111 6 ≤ 900) (hX : cw_Xok X) (hpk : cw_Holds fk_all mt_all cw_Ds cw_sh G (cw_PP G) kk_X12_packed) (hP : cw_PP G h0) (hfin : ∀ h, cw_T G h → cw_Fr cw_Ds cw_sh kk_X12_token.2.2.2.2.2.1 h0 h → cw_PP G h → ri_at h 111 6 = ri_at h0 111 6 → ri_at h0 111 7 ≤ ri_at h 111 7 → (ri_at h 111 8 = 0 ∨ ri_at h0 111 7 < ri_at h 111 7) → Q (none, h)) : ∀ (N : Nat) (h : cv_H), cw_T G h → cw_Fr cw_Ds cw_sh kk_X12_token.2.2.2.2.2.1 h0 h → ri_at h 111 6 = ri_at h0 111 6 → ri_at h 111 7 ≤ ri_at h 111 6 → ri_at h0 111 7 < ri_at h 111 7 → (ri_at h 111 8 = 1 → 0 ≤ ri_at h 111 9 ∧ ri_at h 111 9 ≤ 33) ∧ (ri_at h 111 8 = 5 → 0 ≤ ri_at h 111 9 ∧ ri_at h 111 9 ≤ 5) → (ri_at h 111 6 - ri_at h 111 7).toNat ≤ N → cw_X X 163 Q 90 (cv_ent 0 [cv_r 111]) [] h := by
  intro N
  induction N with
  | zero =>
    intro h Th Fh n1 n2 n3 n5 hN
    refine ex_al oq_X12_token_90 rfl ?_
    refine ex_al oq_X12_token_91 rfl ?_
    obtain ⟨x3001, ax3001, rx3001, lx3001, ux3001⟩ := fi_next Th
    refine ex_gf oq_X12_token_92 Th (k := 111) (d := 12) rfl rfl ax3001 ?_
    refine ex_cv oq_X12_token_95 (by decide) Th (k := 111) (d := 12) (as := [cv_i x3001]) (stk := []) rfl rfl rfl rfl rfl rfl ⟨rfl, rfl⟩ (R := fun o => ∃ x : Int32, o = (some (cv_i x), h) ∧ 0 ≤ x.toInt ∧ x.toInt ≤ 1 ∧ (x.toInt = 0 ∨ x3001.toInt < ri_at h 111 6) ∧ (x.toInt = 1 ∧ (ri_at h 111 7 < ri_at h 111 6 ∧ 97 ≤ ri_at h 112 (ri_at h 111 7).toNat ∧ ri_at h 112 (ri_at h 111 7).toNat ≤ 122) ∨ x.toInt = 0 ∧ ¬ (ri_at h 111 7 < ri_at h 111 6 ∧ 97 ≤ ri_at h 112 (ri_at h 111 7).toNat ∧ ri_at h 112 (ri_at h 111 7).toNat ≤ 122))) (sp_isSmall Th x3001 (by omega) (by omega) (by omega) (fun x x0 x1 x2 x3 => ⟨x, rfl, x0, x1, x2, x3⟩)) (fun ox3002 hox3002 => ?_)
    obtain ⟨x3002, rfl, lx3002, ux3002, tx3002, dx3002⟩ := hox3002
    show cw_X _ _ _ _ _ [cv_i x3002] h
    refine ex_if0 oq_X12_token_98 (t := 114) rfl rfl (fun (c3003 : x3002.toInt = 0) => ?_) (fun (c3003 : ¬ (x3002.toInt = 0)) => ?_)
    · refine ex_al oq_X12_token_114 rfl ?_
      refine ex_al oq_X12_token_115 rfl ?_
      refine ex_al oq_X12_token_116 rfl ?_
      obtain ⟨x3004, ax3004, rx3004, lx3004, ux3004⟩ := fi_at Th
      refine ex_gf oq_X12_token_117 Th (k := 111) (d := 12) rfl rfl ax3004 ?_
      refine ex_al oq_X12_token_120 rfl ?_
      obtain ⟨x3005, ax3005, rx3005, lx3005, ux3005⟩ := fi_next Th
      refine ex_gf oq_X12_token_121 Th (k := 111) (d := 12) rfl rfl ax3005 ?_
      have Ph : cw_PP G h := pp_fr1 (by decide +kernel) hP Fh ⟨by omega, by intro q; omega, by intro q; omega⟩
      refine ex_cv oq_X12_token_124 (by decide) Th (k := 111) (d := 12) (as := [cv_i x3004, cv_i x3005]) (stk := [cv_r 111]) rfl rfl rfl rfl rfl rfl ⟨rfl, rfl⟩ (cw_HX (hk_X12_wordAt G) rfl (cw_Xok_no2 hX) ⟨Th, Ph⟩ ⟨.inl ⟨by decide, 111, rfl, rfl⟩, ⟨_, rfl, by show (0 : Int) ≤ _; omega, by show _ ≤ (900 : Int); omega, cw_tg0⟩, ⟨_, rfl, by show (0 : Int) ≤ _; omega, by show _ ≤ (900 : Int); omega, cw_tg0⟩, trivial⟩ (fun t ht => absurd ht List.not_mem_nil)) (fun ox3007 hox3007 => ?_)
      obtain ⟨x3007, h3006, rfl, rx3007, Th3006, Ph3006, Ch3006, tx3007⟩ := po_int hox3007 rfl
      have lx3007 := rx3007.1
      have ux3007 := rx3007.2.1
      try dsimp only at lx3007 ux3007
      show cw_X _ _ _ _ _ [cv_i x3007, cv_r 111] h3006
      have Fh3006 : cw_Fr cw_Ds cw_sh kk_X12_token.2.2.2.2.2.1 h0 h3006 := cw_Fr_tr Fh (cw_Fr_mono (by decide +kernel) Ch3006)
      have eh3006_7 : ri_at h3006 111 7 = ri_at h 111 7 := ri_frf Ch3006 (d := 12) rfl rfl (by decide +kernel)
      have eh3006_6 : ri_at h3006 111 6 = ri_at h 111 6 := ri_frf Ch3006 (d := 12) rfl rfl (by decide +kernel)
      have eh3006_8 : ri_at h3006 111 8 = ri_at h 111 8 := ri_frf Ch3006 (d := 12) rfl rfl (by decide +kernel)
      have eh3006_9 : ri_at h3006 111 9 = ri_at h 111 9 := ri_frf Ch3006 (d := 12) rfl rfl (by decide +kernel)
      have eh3006_10 : ri_at h3006 111 10 = ri_at h 111 10 := ri_frf Ch3006 (d := 12) rfl rfl (by decide +kernel)
      refine ex_pfi oq_X12_token_127 Th3006 (k := 111) (d := 12) rfl rfl rfl (cw_i32 _).1 (cw_i32 _).2 (fun h3008 Th3008 wh3008 => ?_)
      have Fh3008 : cw_Fr cw_Ds cw_sh kk_X12_token.2.2.2.2.2.1 h0 h3008 := cw_Fr_tr Fh3006 (cw_Fr_wrf wh3008 (k := 111) (d := 12) rfl rfl (by decide +kernel))
      have eh3008_7 : ri_at h3008 111 7 = ri_at h3006 111 7 := ri_ne wh3008 (by decide)
      have eh3008_6 : ri_at h3008 111 6 = ri_at h3006 111 6 := ri_ne wh3008 (by decide)
      have eh3008_8 : ri_at h3008 111 8 = ri_at h3006 111 8 := ri_ne wh3008 (by decide)
      have eh3008_9 : ri_at h3008 111 9 = x3007.toInt := ri_self wh3008
      have eh3008_10 : ri_at h3008 111 10 = ri_at h3006 111 10 := ri_ne wh3008 (by decide)
      refine ex_al oq_X12_token_130 rfl ?_
      refine ex_al oq_X12_token_131 rfl ?_
      obtain ⟨x3009, ax3009, rx3009, lx3009, ux3009⟩ := fi_which Th3008
      refine ex_gf oq_X12_token_132 Th3008 (k := 111) (d := 12) rfl rfl ax3009 ?_
      refine ex_if0 oq_X12_token_135 (t := 142) rfl rfl (fun (c3010 : x3009.toInt < 0) => ?_) (fun (c3010 : ¬ (x3009.toInt < 0)) => ?_)
      · refine ex_al oq_X12_token_142 rfl ?_
        obtain ⟨x3011, ax3011, rx3011, lx3011, ux3011⟩ := fi_next Th3008
        refine ex_gf oq_X12_token_143 Th3008 (k := 111) (d := 12) rfl rfl ax3011 ?_
        refine ex_al oq_X12_token_146 rfl ?_
        obtain ⟨x3012, ax3012, rx3012, lx3012, ux3012⟩ := fi_at Th3008
        refine ex_gf oq_X12_token_147 Th3008 (k := 111) (d := 12) rfl rfl ax3012 ?_
        refine ex_sub oq_X12_token_150 (by omega) (fun x3013 hx3013 => ?_)
        refine ex_bi oq_X12_token_151 (m := 6) (by decide) (fun x3014 hx3014 => ?_)
        refine ex_if oq_X12_token_153 (t := 161) rfl rfl (fun (c3015 : x3013.toInt ≤ x3014.toInt) => ?_) (fun (c3015 : ¬ (x3013.toInt ≤ x3014.toInt)) => ?_)
        · refine ex_ic oq_X12_token_161 (m := 2) (by decide) (fun x3016 hx3016 => ?_)
          refine ex_pfi oq_X12_token_162 Th3008 (k := 111) (d := 12) rfl rfl rfl (by omega) (by omega) (fun h3017 Th3017 wh3017 => ?_)
          have Fh3017 : cw_Fr cw_Ds cw_sh kk_X12_token.2.2.2.2.2.1 h0 h3017 := cw_Fr_tr Fh3008 (cw_Fr_wrf wh3017 (k := 111) (d := 12) rfl rfl (by decide +kernel))
          have eh3017_7 : ri_at h3017 111 7 = ri_at h3008 111 7 := ri_ne wh3017 (by decide)
          have eh3017_6 : ri_at h3017 111 6 = ri_at h3008 111 6 := ri_ne wh3017 (by decide)
          have eh3017_8 : ri_at h3017 111 8 = x3016.toInt := ri_self wh3017
          have eh3017_9 : ri_at h3017 111 9 = ri_at h3008 111 9 := ri_ne wh3017 (by decide)
          have eh3017_10 : ri_at h3017 111 10 = ri_at h3008 111 10 := ri_ne wh3017 (by decide)
          refine ex_al oq_X12_token_165 rfl ?_
          obtain ⟨x3018, ax3018, rx3018, lx3018, ux3018⟩ := fi_kind Th3017
          refine ex_gf oq_X12_token_166 Th3017 (k := 111) (d := 12) rfl rfl ax3018 ?_
          refine ex_ic oq_X12_token_169 (m := 2) (by decide) (fun x3019 hx3019 => ?_)
          refine ex_if oq_X12_token_170 (t := 282) rfl rfl (fun (c3020 : ¬ x3018.toInt = x3019.toInt) => ?_) (fun (c3020 : ¬ (¬ x3018.toInt = x3019.toInt)) => ?_)
          · exact ex_retv oq_X12_token_282 rfl (hfin h3017 Th3017 Fh3017 (pp_fr1 (by decide +kernel) hP Fh3017 ⟨by omega, by intro q; omega, by intro q; omega⟩) (by omega) (by omega) (by omega))
          · refine ex_al oq_X12_token_173 rfl ?_
            refine ex_al oq_X12_token_174 rfl ?_
            refine ex_al oq_X12_token_175 rfl ?_
            obtain ⟨x3021, ax3021, rx3021, lx3021, ux3021⟩ := fi_at Th3017
            refine ex_gf oq_X12_token_176 Th3017 (k := 111) (d := 12) rfl rfl ax3021 ?_
            refine ex_al oq_X12_token_179 rfl ?_
            obtain ⟨x3022, ax3022, rx3022, lx3022, ux3022⟩ := fi_next Th3017
            refine ex_gf oq_X12_token_180 Th3017 (k := 111) (d := 12) rfl rfl ax3022 ?_
            have Ph3017 : cw_PP G h3017 := pp_fr1 (by decide +kernel) hP Fh3017 ⟨by omega, by intro q; omega, by intro q; omega⟩
            refine ex_cv oq_X12_token_183 (by decide) Th3017 (k := 111) (d := 12) (as := [cv_i x3021, cv_i x3022]) (stk := [cv_r 111]) rfl rfl rfl rfl rfl rfl ⟨rfl, rfl⟩ (cw_HX hpk rfl (cw_Xok_no2 hX) ⟨Th3017, Ph3017⟩ ⟨.inl ⟨by decide, 111, rfl, rfl⟩, ⟨_, rfl, by show (0 : Int) ≤ _; omega, by show _ ≤ (900 : Int); omega, cw_tg0⟩, ⟨_, rfl, by show (0 : Int) ≤ _; omega, by show _ ≤ (900 : Int); omega, cw_tg0⟩, trivial⟩ (fun t ht => absurd ht List.not_mem_nil)) (fun ox3024 hox3024 => ?_)
            obtain ⟨x3024, h3023, rfl, rx3024, Th3023, Ph3023, Ch3023, tx3024⟩ := po_int hox3024 rfl
            have lx3024 := rx3024.1
            have ux3024 := rx3024.2.1
            try dsimp only at lx3024 ux3024
            show cw_X _ _ _ _ _ [cv_i x3024, cv_r 111] h3023
            have Fh3023 : cw_Fr cw_Ds cw_sh kk_X12_token.2.2.2.2.2.1 h0 h3023 := cw_Fr_tr Fh3017 (cw_Fr_mono (by decide +kernel) Ch3023)
            have eh3023_7 : ri_at h3023 111 7 = ri_at h3017 111 7 := ri_frf Ch3023 (d := 12) rfl rfl (by decide +kernel)
            have eh3023_6 : ri_at h3023 111 6 = ri_at h3017 111 6 := ri_frf Ch3023 (d := 12) rfl rfl (by decide +kernel)
            have eh3023_8 : ri_at h3023 111 8 = ri_at h3017 111 8 := ri_frf Ch3023 (d := 12) rfl rfl (by decide +kernel)
            have eh3023_9 : ri_at h3023 111 9 = ri_at h3017 111 9 := ri_frf Ch3023 (d := 12) rfl rfl (by decide +kernel)
            have eh3023_10 : ri_at h3023 111 10 = ri_at h3017 111 10 := ri_frf Ch3023 (d := 12) rfl rfl (by decide +kernel)
            refine ex_pfi oq_X12_token_186 Th3023 (k := 111) (d := 12) rfl rfl rfl (cw_i32 _).1 (cw_i32 _).2 (fun h3025 Th3025 wh3025 => ?_)
            have Fh3025 : cw_Fr cw_Ds cw_sh kk_X12_token.2.2.2.2.2.1 h0 h3025 := cw_Fr_tr Fh3023 (cw_Fr_wrf wh3025 (k := 111) (d := 12) rfl rfl (by decide +kernel))
            have eh3025_7 : ri_at h3025 111 7 = ri_at h3023 111 7 := ri_ne wh3025 (by decide)
            have eh3025_6 : ri_at h3025 111 6 = ri_at h3023 111 6 := ri_ne wh3025 (by decide)
            have eh3025_8 : ri_at h3025 111 8 = ri_at h3023 111 8 := ri_ne wh3025 (by decide)
            have eh3025_9 : ri_at h3025 111 9 = x3024.toInt := ri_self wh3025
            have eh3025_10 : ri_at h3025 111 10 = ri_at h3023 111 10 := ri_ne wh3025 (by decide)
            refine ex_go oq_X12_token_189 (t := 282) rfl rfl ?_
            exact ex_retv oq_X12_token_282 rfl (hfin h3025 Th3025 Fh3025 (pp_fr1 (by decide +kernel) hP Fh3025 ⟨by omega, by intro q; omega, by intro q; omega⟩) (by omega) (by omega) (by omega))
        · refine ex_bi oq_X12_token_156 (m := 6) (by decide) (fun x3026 hx3026 => ?_)
          refine ex_go oq_X12_token_158 (t := 162) rfl rfl ?_
          refine ex_pfi oq_X12_token_162 Th3008 (k := 111) (d := 12) rfl rfl rfl (by omega) (by omega) (fun h3027 Th3027 wh3027 => ?_)
          have Fh3027 : cw_Fr cw_Ds cw_sh kk_X12_token.2.2.2.2.2.1 h0 h3027 := cw_Fr_tr Fh3008 (cw_Fr_wrf wh3027 (k := 111) (d := 12) rfl rfl (by decide +kernel))
          have eh3027_7 : ri_at h3027 111 7 = ri_at h3008 111 7 := ri_ne wh3027 (by decide)
          have eh3027_6 : ri_at h3027 111 6 = ri_at h3008 111 6 := ri_ne wh3027 (by decide)
          have eh3027_8 : ri_at h3027 111 8 = x3026.toInt := ri_self wh3027
          have eh3027_9 : ri_at h3027 111 9 = ri_at h3008 111 9 := ri_ne wh3027 (by decide)
          have eh3027_10 : ri_at h3027 111 10 = ri_at h3008 111 10 := ri_ne wh3027 (by decide)
          refine ex_al oq_X12_token_165 rfl ?_
          obtain ⟨x3028, ax3028, rx3028, lx3028, ux3028⟩ := fi_kind Th3027
          refine ex_gf oq_X12_token_166 Th3027 (k := 111) (d := 12) rfl rfl ax3028 ?_
          refine ex_ic oq_X12_token_169 (m := 2) (by decide) (fun x3029 hx3029 => ?_)
          refine ex_if oq_X12_token_170 (t := 282) rfl rfl (fun (c3030 : ¬ x3028.toInt = x3029.toInt) => ?_) (fun (c3030 : ¬ (¬ x3028.toInt = x3029.toInt)) => ?_)
          · exact ex_retv oq_X12_token_282 rfl (hfin h3027 Th3027 Fh3027 (pp_fr1 (by decide +kernel) hP Fh3027 ⟨by omega, by intro q; omega, by intro q; omega⟩) (by omega) (by omega) (by omega))
          · refine ex_al oq_X12_token_173 rfl ?_
            refine ex_al oq_X12_token_174 rfl ?_
            refine ex_al oq_X12_token_175 rfl ?_
            obtain ⟨x3031, ax3031, rx3031, lx3031, ux3031⟩ := fi_at Th3027
            refine ex_gf oq_X12_token_176 Th3027 (k := 111) (d := 12) rfl rfl ax3031 ?_
            refine ex_al oq_X12_token_179 rfl ?_
            obtain ⟨x3032, ax3032, rx3032, lx3032, ux3032⟩ := fi_next Th3027
            refine ex_gf oq_X12_token_180 Th3027 (k := 111) (d := 12) rfl rfl ax3032 ?_
            have Ph3027 : cw_PP G h3027 := pp_fr1 (by decide +kernel) hP Fh3027 ⟨by omega, by intro q; omega, by intro q; omega⟩
            refine ex_cv oq_X12_token_183 (by decide) Th3027 (k := 111) (d := 12) (as := [cv_i x3031, cv_i x3032]) (stk := [cv_r 111]) rfl rfl rfl rfl rfl rfl ⟨rfl, rfl⟩ (cw_HX hpk rfl (cw_Xok_no2 hX) ⟨Th3027, Ph3027⟩ ⟨.inl ⟨by decide, 111, rfl, rfl⟩, ⟨_, rfl, by show (0 : Int) ≤ _; omega, by show _ ≤ (900 : Int); omega, cw_tg0⟩, ⟨_, rfl, by show (0 : Int) ≤ _; omega, by show _ ≤ (900 : Int); omega, cw_tg0⟩, trivial⟩ (fun t ht => absurd ht List.not_mem_nil)) (fun ox3034 hox3034 => ?_)
            obtain ⟨x3034, h3033, rfl, rx3034, Th3033, Ph3033, Ch3033, tx3034⟩ := po_int hox3034 rfl
            have lx3034 := rx3034.1
            have ux3034 := rx3034.2.1
            try dsimp only at lx3034 ux3034
            show cw_X _ _ _ _ _ [cv_i x3034, cv_r 111] h3033
            have Fh3033 : cw_Fr cw_Ds cw_sh kk_X12_token.2.2.2.2.2.1 h0 h3033 := cw_Fr_tr Fh3027 (cw_Fr_mono (by decide +kernel) Ch3033)
            have eh3033_7 : ri_at h3033 111 7 = ri_at h3027 111 7 := ri_frf Ch3033 (d := 12) rfl rfl (by decide +kernel)
            have eh3033_6 : ri_at h3033 111 6 = ri_at h3027 111 6 := ri_frf Ch3033 (d := 12) rfl rfl (by decide +kernel)
            have eh3033_8 : ri_at h3033 111 8 = ri_at h3027 111 8 := ri_frf Ch3033 (d := 12) rfl rfl (by decide +kernel)
            have eh3033_9 : ri_at h3033 111 9 = ri_at h3027 111 9 := ri_frf Ch3033 (d := 12) rfl rfl (by decide +kernel)
            have eh3033_10 : ri_at h3033 111 10 = ri_at h3027 111 10 := ri_frf Ch3033 (d := 12) rfl rfl (by decide +kernel)
            refine ex_pfi oq_X12_token_186 Th3033 (k := 111) (d := 12) rfl rfl rfl (cw_i32 _).1 (cw_i32 _).2 (fun h3035 Th3035 wh3035 => ?_)
            have Fh3035 : cw_Fr cw_Ds cw_sh kk_X12_token.2.2.2.2.2.1 h0 h3035 := cw_Fr_tr Fh3033 (cw_Fr_wrf wh3035 (k := 111) (d := 12) rfl rfl (by decide +kernel))
            have eh3035_7 : ri_at h3035 111 7 = ri_at h3033 111 7 := ri_ne wh3035 (by decide)
            have eh3035_6 : ri_at h3035 111 6 = ri_at h3033 111 6 := ri_ne wh3035 (by decide)
            have eh3035_8 : ri_at h3035 111 8 = ri_at h3033 111 8 := ri_ne wh3035 (by decide)
            have eh3035_9 : ri_at h3035 111 9 = x3034.toInt := ri_self wh3035
            have eh3035_10 : ri_at h3035 111 10 = ri_at h3033 111 10 := ri_ne wh3035 (by decide)
            refine ex_go oq_X12_token_189 (t := 282) rfl rfl ?_
            exact ex_retv oq_X12_token_282 rfl (hfin h3035 Th3035 Fh3035 (pp_fr1 (by decide +kernel) hP Fh3035 ⟨by omega, by intro q; omega, by intro q; omega⟩) (by omega) (by omega) (by omega))
      · refine ex_ic oq_X12_token_138 (m := 1) (by decide) (fun x3036 hx3036 => ?_)
        refine ex_go oq_X12_token_139 (t := 162) rfl rfl ?_
        refine ex_pfi oq_X12_token_162 Th3008 (k := 111) (d := 12) rfl rfl rfl (by omega) (by omega) (fun h3037 Th3037 wh3037 => ?_)
        have Fh3037 : cw_Fr cw_Ds cw_sh kk_X12_token.2.2.2.2.2.1 h0 h3037 := cw_Fr_tr Fh3008 (cw_Fr_wrf wh3037 (k := 111) (d := 12) rfl rfl (by decide +kernel))
        have eh3037_7 : ri_at h3037 111 7 = ri_at h3008 111 7 := ri_ne wh3037 (by decide)
        have eh3037_6 : ri_at h3037 111 6 = ri_at h3008 111 6 := ri_ne wh3037 (by decide)
        have eh3037_8 : ri_at h3037 111 8 = x3036.toInt := ri_self wh3037
        have eh3037_9 : ri_at h3037 111 9 = ri_at h3008 111 9 := ri_ne wh3037 (by decide)
        have eh3037_10 : ri_at h3037 111 10 = ri_at h3008 111 10 := ri_ne wh3037 (by decide)
        refine ex_al oq_X12_token_165 rfl ?_
        obtain ⟨x3038, ax3038, rx3038, lx3038, ux3038⟩ := fi_kind Th3037
        refine ex_gf oq_X12_token_166 Th3037 (k := 111) (d := 12) rfl rfl ax3038 ?_
        refine ex_ic oq_X12_token_169 (m := 2) (by decide) (fun x3039 hx3039 => ?_)
        refine ex_if oq_X12_token_170 (t := 282) rfl rfl (fun (c3040 : ¬ x3038.toInt = x3039.toInt) => ?_) (fun (c3040 : ¬ (¬ x3038.toInt = x3039.toInt)) => ?_)
        · exact ex_retv oq_X12_token_282 rfl (hfin h3037 Th3037 Fh3037 (pp_fr1 (by decide +kernel) hP Fh3037 ⟨by omega, by intro q; omega, by intro q; omega⟩) (by omega) (by omega) (by omega))
        · refine ex_al oq_X12_token_173 rfl ?_
          refine ex_al oq_X12_token_174 rfl ?_
          refine ex_al oq_X12_token_175 rfl ?_
          obtain ⟨x3041, ax3041, rx3041, lx3041, ux3041⟩ := fi_at Th3037
          refine ex_gf oq_X12_token_176 Th3037 (k := 111) (d := 12) rfl rfl ax3041 ?_
          refine ex_al oq_X12_token_179 rfl ?_
          obtain ⟨x3042, ax3042, rx3042, lx3042, ux3042⟩ := fi_next Th3037
          refine ex_gf oq_X12_token_180 Th3037 (k := 111) (d := 12) rfl rfl ax3042 ?_
          have Ph3037 : cw_PP G h3037 := pp_fr1 (by decide +kernel) hP Fh3037 ⟨by omega, by intro q; omega, by intro q; omega⟩
          refine ex_cv oq_X12_token_183 (by decide) Th3037 (k := 111) (d := 12) (as := [cv_i x3041, cv_i x3042]) (stk := [cv_r 111]) rfl rfl rfl rfl rfl rfl ⟨rfl, rfl⟩ (cw_HX hpk rfl (cw_Xok_no2 hX) ⟨Th3037, Ph3037⟩ ⟨.inl ⟨by decide, 111, rfl, rfl⟩, ⟨_, rfl, by show (0 : Int) ≤ _; omega, by show _ ≤ (900 : Int); omega, cw_tg0⟩, ⟨_, rfl, by show (0 : Int) ≤ _; omega, by show _ ≤ (900 : Int); omega, cw_tg0⟩, trivial⟩ (fun t ht => absurd ht List.not_mem_nil)) (fun ox3044 hox3044 => ?_)
          obtain ⟨x3044, h3043, rfl, rx3044, Th3043, Ph3043, Ch3043, tx3044⟩ := po_int hox3044 rfl
          have lx3044 := rx3044.1
          have ux3044 := rx3044.2.1
          try dsimp only at lx3044 ux3044
          show cw_X _ _ _ _ _ [cv_i x3044, cv_r 111] h3043
          have Fh3043 : cw_Fr cw_Ds cw_sh kk_X12_token.2.2.2.2.2.1 h0 h3043 := cw_Fr_tr Fh3037 (cw_Fr_mono (by decide +kernel) Ch3043)
          have eh3043_7 : ri_at h3043 111 7 = ri_at h3037 111 7 := ri_frf Ch3043 (d := 12) rfl rfl (by decide +kernel)
          have eh3043_6 : ri_at h3043 111 6 = ri_at h3037 111 6 := ri_frf Ch3043 (d := 12) rfl rfl (by decide +kernel)
          have eh3043_8 : ri_at h3043 111 8 = ri_at h3037 111 8 := ri_frf Ch3043 (d := 12) rfl rfl (by decide +kernel)
          have eh3043_9 : ri_at h3043 111 9 = ri_at h3037 111 9 := ri_frf Ch3043 (d := 12) rfl rfl (by decide +kernel)
          have eh3043_10 : ri_at h3043 111 10 = ri_at h3037 111 10 := ri_frf Ch3043 (d := 12) rfl rfl (by decide +kernel)
          refine ex_pfi oq_X12_token_186 Th3043 (k := 111) (d := 12) rfl rfl rfl (cw_i32 _).1 (cw_i32 _).2 (fun h3045 Th3045 wh3045 => ?_)
          have Fh3045 : cw_Fr cw_Ds cw_sh kk_X12_token.2.2.2.2.2.1 h0 h3045 := cw_Fr_tr Fh3043 (cw_Fr_wrf wh3045 (k := 111) (d := 12) rfl rfl (by decide +kernel))
          have eh3045_7 : ri_at h3045 111 7 = ri_at h3043 111 7 := ri_ne wh3045 (by decide)
          have eh3045_6 : ri_at h3045 111 6 = ri_at h3043 111 6 := ri_ne wh3045 (by decide)
          have eh3045_8 : ri_at h3045 111 8 = ri_at h3043 111 8 := ri_ne wh3045 (by decide)
          have eh3045_9 : ri_at h3045 111 9 = x3044.toInt := ri_self wh3045
          have eh3045_10 : ri_at h3045 111 10 = ri_at h3043 111 10 := ri_ne wh3045 (by decide)
          refine ex_go oq_X12_token_189 (t := 282) rfl rfl ?_
          exact ex_retv oq_X12_token_282 rfl (hfin h3045 Th3045 Fh3045 (pp_fr1 (by decide +kernel) hP Fh3045 ⟨by omega, by intro q; omega, by intro q; omega⟩) (by omega) (by omega) (by omega))
    · refine ex_al oq_X12_token_101 rfl ?_
      refine ex_dup oq_X12_token_102 rfl ?_
      obtain ⟨x3046, ax3046, rx3046, lx3046, ux3046⟩ := fi_next Th
      refine ex_gf oq_X12_token_103 Th (k := 111) (d := 12) rfl rfl ax3046 ?_
      refine ex_ic oq_X12_token_106 (m := 1) (by decide) (fun x3047 hx3047 => ?_)
      refine ex_add oq_X12_token_107 (by omega) (fun x3048 hx3048 => ?_)
      refine ex_pfi oq_X12_token_108 Th (k := 111) (d := 12) rfl rfl rfl (by omega) (by omega) (fun h3049 Th3049 wh3049 => ?_)
      have Fh3049 : cw_Fr cw_Ds cw_sh kk_X12_token.2.2.2.2.2.1 h0 h3049 := cw_Fr_tr Fh (cw_Fr_wrf wh3049 (k := 111) (d := 12) rfl rfl (by decide +kernel))
      have eh3049_7 : ri_at h3049 111 7 = x3048.toInt := ri_self wh3049
      have eh3049_6 : ri_at h3049 111 6 = ri_at h 111 6 := ri_ne wh3049 (by decide)
      have eh3049_8 : ri_at h3049 111 8 = ri_at h 111 8 := ri_ne wh3049 (by decide)
      have eh3049_9 : ri_at h3049 111 9 = ri_at h 111 9 := ri_ne wh3049 (by decide)
      have eh3049_10 : ri_at h3049 111 10 = ri_at h 111 10 := ri_ne wh3049 (by decide)
      refine ex_go oq_X12_token_111 (t := 90) rfl rfl ?_
      exfalso; omega -- h3049 Th3049 Fh3049 (by omega) (by omega) (by omega) (by omega) (by omega)
  | succ N ih =>
    intro h Th Fh n1 n2 n3 n5 hN
    refine ex_al oq_X12_token_90 rfl ?_
    refine ex_al oq_X12_token_91 rfl ?_
    obtain ⟨x3001, ax3001, rx3001, lx3001, ux3001⟩ := fi_next Th
    refine ex_gf oq_X12_token_92 Th (k := 111) (d := 12) rfl rfl ax3001 ?_
    refine ex_cv oq_X12_token_95 (by decide) Th (k := 111) (d := 12) (as := [cv_i x3001]) (stk := []) rfl rfl rfl rfl rfl rfl ⟨rfl, rfl⟩ (R := fun o => ∃ x : Int32, o = (some (cv_i x), h) ∧ 0 ≤ x.toInt ∧ x.toInt ≤ 1 ∧ (x.toInt = 0 ∨ x3001.toInt < ri_at h 111 6) ∧ (x.toInt = 1 ∧ (ri_at h 111 7 < ri_at h 111 6 ∧ 97 ≤ ri_at h 112 (ri_at h 111 7).toNat ∧ ri_at h 112 (ri_at h 111 7).toNat ≤ 122) ∨ x.toInt = 0 ∧ ¬ (ri_at h 111 7 < ri_at h 111 6 ∧ 97 ≤ ri_at h 112 (ri_at h 111 7).toNat ∧ ri_at h 112 (ri_at h 111 7).toNat ≤ 122))) (sp_isSmall Th x3001 (by omega) (by omega) (by omega) (fun x x0 x1 x2 x3 => ⟨x, rfl, x0, x1, x2, x3⟩)) (fun ox3002 hox3002 => ?_)
    obtain ⟨x3002, rfl, lx3002, ux3002, tx3002, dx3002⟩ := hox3002
    show cw_X _ _ _ _ _ [cv_i x3002] h
    refine ex_if0 oq_X12_token_98 (t := 114) rfl rfl (fun (c3003 : x3002.toInt = 0) => ?_) (fun (c3003 : ¬ (x3002.toInt = 0)) => ?_)
    · refine ex_al oq_X12_token_114 rfl ?_
      refine ex_al oq_X12_token_115 rfl ?_
      refine ex_al oq_X12_token_116 rfl ?_
      obtain ⟨x3004, ax3004, rx3004, lx3004, ux3004⟩ := fi_at Th
      refine ex_gf oq_X12_token_117 Th (k := 111) (d := 12) rfl rfl ax3004 ?_
      refine ex_al oq_X12_token_120 rfl ?_
      obtain ⟨x3005, ax3005, rx3005, lx3005, ux3005⟩ := fi_next Th
      refine ex_gf oq_X12_token_121 Th (k := 111) (d := 12) rfl rfl ax3005 ?_
      have Ph : cw_PP G h := pp_fr1 (by decide +kernel) hP Fh ⟨by omega, by intro q; omega, by intro q; omega⟩
      refine ex_cv oq_X12_token_124 (by decide) Th (k := 111) (d := 12) (as := [cv_i x3004, cv_i x3005]) (stk := [cv_r 111]) rfl rfl rfl rfl rfl rfl ⟨rfl, rfl⟩ (cw_HX (hk_X12_wordAt G) rfl (cw_Xok_no2 hX) ⟨Th, Ph⟩ ⟨.inl ⟨by decide, 111, rfl, rfl⟩, ⟨_, rfl, by show (0 : Int) ≤ _; omega, by show _ ≤ (900 : Int); omega, cw_tg0⟩, ⟨_, rfl, by show (0 : Int) ≤ _; omega, by show _ ≤ (900 : Int); omega, cw_tg0⟩, trivial⟩ (fun t ht => absurd ht List.not_mem_nil)) (fun ox3007 hox3007 => ?_)
      obtain ⟨x3007, h3006, rfl, rx3007, Th3006, Ph3006, Ch3006, tx3007⟩ := po_int hox3007 rfl
      have lx3007 := rx3007.1
      have ux3007 := rx3007.2.1
      try dsimp only at lx3007 ux3007
      show cw_X _ _ _ _ _ [cv_i x3007, cv_r 111] h3006
      have Fh3006 : cw_Fr cw_Ds cw_sh kk_X12_token.2.2.2.2.2.1 h0 h3006 := cw_Fr_tr Fh (cw_Fr_mono (by decide +kernel) Ch3006)
      have eh3006_7 : ri_at h3006 111 7 = ri_at h 111 7 := ri_frf Ch3006 (d := 12) rfl rfl (by decide +kernel)
      have eh3006_6 : ri_at h3006 111 6 = ri_at h 111 6 := ri_frf Ch3006 (d := 12) rfl rfl (by decide +kernel)
      have eh3006_8 : ri_at h3006 111 8 = ri_at h 111 8 := ri_frf Ch3006 (d := 12) rfl rfl (by decide +kernel)
      have eh3006_9 : ri_at h3006 111 9 = ri_at h 111 9 := ri_frf Ch3006 (d := 12) rfl rfl (by decide +kernel)
      have eh3006_10 : ri_at h3006 111 10 = ri_at h 111 10 := ri_frf Ch3006 (d := 12) rfl rfl (by decide +kernel)
      refine ex_pfi oq_X12_token_127 Th3006 (k := 111) (d := 12) rfl rfl rfl (cw_i32 _).1 (cw_i32 _).2 (fun h3008 Th3008 wh3008 => ?_)
      have Fh3008 : cw_Fr cw_Ds cw_sh kk_X12_token.2.2.2.2.2.1 h0 h3008 := cw_Fr_tr Fh3006 (cw_Fr_wrf wh3008 (k := 111) (d := 12) rfl rfl (by decide +kernel))
      have eh3008_7 : ri_at h3008 111 7 = ri_at h3006 111 7 := ri_ne wh3008 (by decide)
      have eh3008_6 : ri_at h3008 111 6 = ri_at h3006 111 6 := ri_ne wh3008 (by decide)
      have eh3008_8 : ri_at h3008 111 8 = ri_at h3006 111 8 := ri_ne wh3008 (by decide)
      have eh3008_9 : ri_at h3008 111 9 = x3007.toInt := ri_self wh3008
      have eh3008_10 : ri_at h3008 111 10 = ri_at h3006 111 10 := ri_ne wh3008 (by decide)
      refine ex_al oq_X12_token_130 rfl ?_
      refine ex_al oq_X12_token_131 rfl ?_
      obtain ⟨x3009, ax3009, rx3009, lx3009, ux3009⟩ := fi_which Th3008
      refine ex_gf oq_X12_token_132 Th3008 (k := 111) (d := 12) rfl rfl ax3009 ?_
      refine ex_if0 oq_X12_token_135 (t := 142) rfl rfl (fun (c3010 : x3009.toInt < 0) => ?_) (fun (c3010 : ¬ (x3009.toInt < 0)) => ?_)
      · refine ex_al oq_X12_token_142 rfl ?_
        obtain ⟨x3011, ax3011, rx3011, lx3011, ux3011⟩ := fi_next Th3008
        refine ex_gf oq_X12_token_143 Th3008 (k := 111) (d := 12) rfl rfl ax3011 ?_
        refine ex_al oq_X12_token_146 rfl ?_
        obtain ⟨x3012, ax3012, rx3012, lx3012, ux3012⟩ := fi_at Th3008
        refine ex_gf oq_X12_token_147 Th3008 (k := 111) (d := 12) rfl rfl ax3012 ?_
        refine ex_sub oq_X12_token_150 (by omega) (fun x3013 hx3013 => ?_)
        refine ex_bi oq_X12_token_151 (m := 6) (by decide) (fun x3014 hx3014 => ?_)
        refine ex_if oq_X12_token_153 (t := 161) rfl rfl (fun (c3015 : x3013.toInt ≤ x3014.toInt) => ?_) (fun (c3015 : ¬ (x3013.toInt ≤ x3014.toInt)) => ?_)
        · refine ex_ic oq_X12_token_161 (m := 2) (by decide) (fun x3016 hx3016 => ?_)
          refine ex_pfi oq_X12_token_162 Th3008 (k := 111) (d := 12) rfl rfl rfl (by omega) (by omega) (fun h3017 Th3017 wh3017 => ?_)
          have Fh3017 : cw_Fr cw_Ds cw_sh kk_X12_token.2.2.2.2.2.1 h0 h3017 := cw_Fr_tr Fh3008 (cw_Fr_wrf wh3017 (k := 111) (d := 12) rfl rfl (by decide +kernel))
          have eh3017_7 : ri_at h3017 111 7 = ri_at h3008 111 7 := ri_ne wh3017 (by decide)
          have eh3017_6 : ri_at h3017 111 6 = ri_at h3008 111 6 := ri_ne wh3017 (by decide)
          have eh3017_8 : ri_at h3017 111 8 = x3016.toInt := ri_self wh3017
          have eh3017_9 : ri_at h3017 111 9 = ri_at h3008 111 9 := ri_ne wh3017 (by decide)
          have eh3017_10 : ri_at h3017 111 10 = ri_at h3008 111 10 := ri_ne wh3017 (by decide)
          refine ex_al oq_X12_token_165 rfl ?_
          obtain ⟨x3018, ax3018, rx3018, lx3018, ux3018⟩ := fi_kind Th3017
          refine ex_gf oq_X12_token_166 Th3017 (k := 111) (d := 12) rfl rfl ax3018 ?_
          refine ex_ic oq_X12_token_169 (m := 2) (by decide) (fun x3019 hx3019 => ?_)
          refine ex_if oq_X12_token_170 (t := 282) rfl rfl (fun (c3020 : ¬ x3018.toInt = x3019.toInt) => ?_) (fun (c3020 : ¬ (¬ x3018.toInt = x3019.toInt)) => ?_)
          · exact ex_retv oq_X12_token_282 rfl (hfin h3017 Th3017 Fh3017 (pp_fr1 (by decide +kernel) hP Fh3017 ⟨by omega, by intro q; omega, by intro q; omega⟩) (by omega) (by omega) (by omega))
          · refine ex_al oq_X12_token_173 rfl ?_
            refine ex_al oq_X12_token_174 rfl ?_
            refine ex_al oq_X12_token_175 rfl ?_
            obtain ⟨x3021, ax3021, rx3021, lx3021, ux3021⟩ := fi_at Th3017
            refine ex_gf oq_X12_token_176 Th3017 (k := 111) (d := 12) rfl rfl ax3021 ?_
            refine ex_al oq_X12_token_179 rfl ?_
            obtain ⟨x3022, ax3022, rx3022, lx3022, ux3022⟩ := fi_next Th3017
            refine ex_gf oq_X12_token_180 Th3017 (k := 111) (d := 12) rfl rfl ax3022 ?_
            have Ph3017 : cw_PP G h3017 := pp_fr1 (by decide +kernel) hP Fh3017 ⟨by omega, by intro q; omega, by intro q; omega⟩
            refine ex_cv oq_X12_token_183 (by decide) Th3017 (k := 111) (d := 12) (as := [cv_i x3021, cv_i x3022]) (stk := [cv_r 111]) rfl rfl rfl rfl rfl rfl ⟨rfl, rfl⟩ (cw_HX hpk rfl (cw_Xok_no2 hX) ⟨Th3017, Ph3017⟩ ⟨.inl ⟨by decide, 111, rfl, rfl⟩, ⟨_, rfl, by show (0 : Int) ≤ _; omega, by show _ ≤ (900 : Int); omega, cw_tg0⟩, ⟨_, rfl, by show (0 : Int) ≤ _; omega, by show _ ≤ (900 : Int); omega, cw_tg0⟩, trivial⟩ (fun t ht => absurd ht List.not_mem_nil)) (fun ox3024 hox3024 => ?_)
            obtain ⟨x3024, h3023, rfl, rx3024, Th3023, Ph3023, Ch3023, tx3024⟩ := po_int hox3024 rfl
            have lx3024 := rx3024.1
            have ux3024 := rx3024.2.1
            try dsimp only at lx3024 ux3024
            show cw_X _ _ _ _ _ [cv_i x3024, cv_r 111] h3023
            have Fh3023 : cw_Fr cw_Ds cw_sh kk_X12_token.2.2.2.2.2.1 h0 h3023 := cw_Fr_tr Fh3017 (cw_Fr_mono (by decide +kernel) Ch3023)
            have eh3023_7 : ri_at h3023 111 7 = ri_at h3017 111 7 := ri_frf Ch3023 (d := 12) rfl rfl (by decide +kernel)
            have eh3023_6 : ri_at h3023 111 6 = ri_at h3017 111 6 := ri_frf Ch3023 (d := 12) rfl rfl (by decide +kernel)
            have eh3023_8 : ri_at h3023 111 8 = ri_at h3017 111 8 := ri_frf Ch3023 (d := 12) rfl rfl (by decide +kernel)
            have eh3023_9 : ri_at h3023 111 9 = ri_at h3017 111 9 := ri_frf Ch3023 (d := 12) rfl rfl (by decide +kernel)
            have eh3023_10 : ri_at h3023 111 10 = ri_at h3017 111 10 := ri_frf Ch3023 (d := 12) rfl rfl (by decide +kernel)
            refine ex_pfi oq_X12_token_186 Th3023 (k := 111) (d := 12) rfl rfl rfl (cw_i32 _).1 (cw_i32 _).2 (fun h3025 Th3025 wh3025 => ?_)
            have Fh3025 : cw_Fr cw_Ds cw_sh kk_X12_token.2.2.2.2.2.1 h0 h3025 := cw_Fr_tr Fh3023 (cw_Fr_wrf wh3025 (k := 111) (d := 12) rfl rfl (by decide +kernel))
            have eh3025_7 : ri_at h3025 111 7 = ri_at h3023 111 7 := ri_ne wh3025 (by decide)
            have eh3025_6 : ri_at h3025 111 6 = ri_at h3023 111 6 := ri_ne wh3025 (by decide)
            have eh3025_8 : ri_at h3025 111 8 = ri_at h3023 111 8 := ri_ne wh3025 (by decide)
            have eh3025_9 : ri_at h3025 111 9 = x3024.toInt := ri_self wh3025
            have eh3025_10 : ri_at h3025 111 10 = ri_at h3023 111 10 := ri_ne wh3025 (by decide)
            refine ex_go oq_X12_token_189 (t := 282) rfl rfl ?_
            exact ex_retv oq_X12_token_282 rfl (hfin h3025 Th3025 Fh3025 (pp_fr1 (by decide +kernel) hP Fh3025 ⟨by omega, by intro q; omega, by intro q; omega⟩) (by omega) (by omega) (by omega))
        · refine ex_bi oq_X12_token_156 (m := 6) (by decide) (fun x3026 hx3026 => ?_)
          refine ex_go oq_X12_token_158 (t := 162) rfl rfl ?_
          refine ex_pfi oq_X12_token_162 Th3008 (k := 111) (d := 12) rfl rfl rfl (by omega) (by omega) (fun h3027 Th3027 wh3027 => ?_)
          have Fh3027 : cw_Fr cw_Ds cw_sh kk_X12_token.2.2.2.2.2.1 h0 h3027 := cw_Fr_tr Fh3008 (cw_Fr_wrf wh3027 (k := 111) (d := 12) rfl rfl (by decide +kernel))
          have eh3027_7 : ri_at h3027 111 7 = ri_at h3008 111 7 := ri_ne wh3027 (by decide)
          have eh3027_6 : ri_at h3027 111 6 = ri_at h3008 111 6 := ri_ne wh3027 (by decide)
          have eh3027_8 : ri_at h3027 111 8 = x3026.toInt := ri_self wh3027
          have eh3027_9 : ri_at h3027 111 9 = ri_at h3008 111 9 := ri_ne wh3027 (by decide)
          have eh3027_10 : ri_at h3027 111 10 = ri_at h3008 111 10 := ri_ne wh3027 (by decide)
          refine ex_al oq_X12_token_165 rfl ?_
          obtain ⟨x3028, ax3028, rx3028, lx3028, ux3028⟩ := fi_kind Th3027
          refine ex_gf oq_X12_token_166 Th3027 (k := 111) (d := 12) rfl rfl ax3028 ?_
          refine ex_ic oq_X12_token_169 (m := 2) (by decide) (fun x3029 hx3029 => ?_)
          refine ex_if oq_X12_token_170 (t := 282) rfl rfl (fun (c3030 : ¬ x3028.toInt = x3029.toInt) => ?_) (fun (c3030 : ¬ (¬ x3028.toInt = x3029.toInt)) => ?_)
          · exact ex_retv oq_X12_token_282 rfl (hfin h3027 Th3027 Fh3027 (pp_fr1 (by decide +kernel) hP Fh3027 ⟨by omega, by intro q; omega, by intro q; omega⟩) (by omega) (by omega) (by omega))
          · refine ex_al oq_X12_token_173 rfl ?_
            refine ex_al oq_X12_token_174 rfl ?_
            refine ex_al oq_X12_token_175 rfl ?_
            obtain ⟨x3031, ax3031, rx3031, lx3031, ux3031⟩ := fi_at Th3027
            refine ex_gf oq_X12_token_176 Th3027 (k := 111) (d := 12) rfl rfl ax3031 ?_
            refine ex_al oq_X12_token_179 rfl ?_
            obtain ⟨x3032, ax3032, rx3032, lx3032, ux3032⟩ := fi_next Th3027
            refine ex_gf oq_X12_token_180 Th3027 (k := 111) (d := 12) rfl rfl ax3032 ?_
            have Ph3027 : cw_PP G h3027 := pp_fr1 (by decide +kernel) hP Fh3027 ⟨by omega, by intro q; omega, by intro q; omega⟩
            refine ex_cv oq_X12_token_183 (by decide) Th3027 (k := 111) (d := 12) (as := [cv_i x3031, cv_i x3032]) (stk := [cv_r 111]) rfl rfl rfl rfl rfl rfl ⟨rfl, rfl⟩ (cw_HX hpk rfl (cw_Xok_no2 hX) ⟨Th3027, Ph3027⟩ ⟨.inl ⟨by decide, 111, rfl, rfl⟩, ⟨_, rfl, by show (0 : Int) ≤ _; omega, by show _ ≤ (900 : Int); omega, cw_tg0⟩, ⟨_, rfl, by show (0 : Int) ≤ _; omega, by show _ ≤ (900 : Int); omega, cw_tg0⟩, trivial⟩ (fun t ht => absurd ht List.not_mem_nil)) (fun ox3034 hox3034 => ?_)
            obtain ⟨x3034, h3033, rfl, rx3034, Th3033, Ph3033, Ch3033, tx3034⟩ := po_int hox3034 rfl
            have lx3034 := rx3034.1
            have ux3034 := rx3034.2.1
            try dsimp only at lx3034 ux3034
            show cw_X _ _ _ _ _ [cv_i x3034, cv_r 111] h3033
            have Fh3033 : cw_Fr cw_Ds cw_sh kk_X12_token.2.2.2.2.2.1 h0 h3033 := cw_Fr_tr Fh3027 (cw_Fr_mono (by decide +kernel) Ch3033)
            have eh3033_7 : ri_at h3033 111 7 = ri_at h3027 111 7 := ri_frf Ch3033 (d := 12) rfl rfl (by decide +kernel)
            have eh3033_6 : ri_at h3033 111 6 = ri_at h3027 111 6 := ri_frf Ch3033 (d := 12) rfl rfl (by decide +kernel)
            have eh3033_8 : ri_at h3033 111 8 = ri_at h3027 111 8 := ri_frf Ch3033 (d := 12) rfl rfl (by decide +kernel)
            have eh3033_9 : ri_at h3033 111 9 = ri_at h3027 111 9 := ri_frf Ch3033 (d := 12) rfl rfl (by decide +kernel)
            have eh3033_10 : ri_at h3033 111 10 = ri_at h3027 111 10 := ri_frf Ch3033 (d := 12) rfl rfl (by decide +kernel)
            refine ex_pfi oq_X12_token_186 Th3033 (k := 111) (d := 12) rfl rfl rfl (cw_i32 _).1 (cw_i32 _).2 (fun h3035 Th3035 wh3035 => ?_)
            have Fh3035 : cw_Fr cw_Ds cw_sh kk_X12_token.2.2.2.2.2.1 h0 h3035 := cw_Fr_tr Fh3033 (cw_Fr_wrf wh3035 (k := 111) (d := 12) rfl rfl (by decide +kernel))
            have eh3035_7 : ri_at h3035 111 7 = ri_at h3033 111 7 := ri_ne wh3035 (by decide)
            have eh3035_6 : ri_at h3035 111 6 = ri_at h3033 111 6 := ri_ne wh3035 (by decide)
            have eh3035_8 : ri_at h3035 111 8 = ri_at h3033 111 8 := ri_ne wh3035 (by decide)
            have eh3035_9 : ri_at h3035 111 9 = x3034.toInt := ri_self wh3035
            have eh3035_10 : ri_at h3035 111 10 = ri_at h3033 111 10 := ri_ne wh3035 (by decide)
            refine ex_go oq_X12_token_189 (t := 282) rfl rfl ?_
            exact ex_retv oq_X12_token_282 rfl (hfin h3035 Th3035 Fh3035 (pp_fr1 (by decide +kernel) hP Fh3035 ⟨by omega, by intro q; omega, by intro q; omega⟩) (by omega) (by omega) (by omega))
      · refine ex_ic oq_X12_token_138 (m := 1) (by decide) (fun x3036 hx3036 => ?_)
        refine ex_go oq_X12_token_139 (t := 162) rfl rfl ?_
        refine ex_pfi oq_X12_token_162 Th3008 (k := 111) (d := 12) rfl rfl rfl (by omega) (by omega) (fun h3037 Th3037 wh3037 => ?_)
        have Fh3037 : cw_Fr cw_Ds cw_sh kk_X12_token.2.2.2.2.2.1 h0 h3037 := cw_Fr_tr Fh3008 (cw_Fr_wrf wh3037 (k := 111) (d := 12) rfl rfl (by decide +kernel))
        have eh3037_7 : ri_at h3037 111 7 = ri_at h3008 111 7 := ri_ne wh3037 (by decide)
        have eh3037_6 : ri_at h3037 111 6 = ri_at h3008 111 6 := ri_ne wh3037 (by decide)
        have eh3037_8 : ri_at h3037 111 8 = x3036.toInt := ri_self wh3037
        have eh3037_9 : ri_at h3037 111 9 = ri_at h3008 111 9 := ri_ne wh3037 (by decide)
        have eh3037_10 : ri_at h3037 111 10 = ri_at h3008 111 10 := ri_ne wh3037 (by decide)
        refine ex_al oq_X12_token_165 rfl ?_
        obtain ⟨x3038, ax3038, rx3038, lx3038, ux3038⟩ := fi_kind Th3037
        refine ex_gf oq_X12_token_166 Th3037 (k := 111) (d := 12) rfl rfl ax3038 ?_
        refine ex_ic oq_X12_token_169 (m := 2) (by decide) (fun x3039 hx3039 => ?_)
        refine ex_if oq_X12_token_170 (t := 282) rfl rfl (fun (c3040 : ¬ x3038.toInt = x3039.toInt) => ?_) (fun (c3040 : ¬ (¬ x3038.toInt = x3039.toInt)) => ?_)
        · exact ex_retv oq_X12_token_282 rfl (hfin h3037 Th3037 Fh3037 (pp_fr1 (by decide +kernel) hP Fh3037 ⟨by omega, by intro q; omega, by intro q; omega⟩) (by omega) (by omega) (by omega))
        · refine ex_al oq_X12_token_173 rfl ?_
          refine ex_al oq_X12_token_174 rfl ?_
          refine ex_al oq_X12_token_175 rfl ?_
          obtain ⟨x3041, ax3041, rx3041, lx3041, ux3041⟩ := fi_at Th3037
          refine ex_gf oq_X12_token_176 Th3037 (k := 111) (d := 12) rfl rfl ax3041 ?_
          refine ex_al oq_X12_token_179 rfl ?_
          obtain ⟨x3042, ax3042, rx3042, lx3042, ux3042⟩ := fi_next Th3037
          refine ex_gf oq_X12_token_180 Th3037 (k := 111) (d := 12) rfl rfl ax3042 ?_
          have Ph3037 : cw_PP G h3037 := pp_fr1 (by decide +kernel) hP Fh3037 ⟨by omega, by intro q; omega, by intro q; omega⟩
          refine ex_cv oq_X12_token_183 (by decide) Th3037 (k := 111) (d := 12) (as := [cv_i x3041, cv_i x3042]) (stk := [cv_r 111]) rfl rfl rfl rfl rfl rfl ⟨rfl, rfl⟩ (cw_HX hpk rfl (cw_Xok_no2 hX) ⟨Th3037, Ph3037⟩ ⟨.inl ⟨by decide, 111, rfl, rfl⟩, ⟨_, rfl, by show (0 : Int) ≤ _; omega, by show _ ≤ (900 : Int); omega, cw_tg0⟩, ⟨_, rfl, by show (0 : Int) ≤ _; omega, by show _ ≤ (900 : Int); omega, cw_tg0⟩, trivial⟩ (fun t ht => absurd ht List.not_mem_nil)) (fun ox3044 hox3044 => ?_)
          obtain ⟨x3044, h3043, rfl, rx3044, Th3043, Ph3043, Ch3043, tx3044⟩ := po_int hox3044 rfl
          have lx3044 := rx3044.1
          have ux3044 := rx3044.2.1
          try dsimp only at lx3044 ux3044
          show cw_X _ _ _ _ _ [cv_i x3044, cv_r 111] h3043
          have Fh3043 : cw_Fr cw_Ds cw_sh kk_X12_token.2.2.2.2.2.1 h0 h3043 := cw_Fr_tr Fh3037 (cw_Fr_mono (by decide +kernel) Ch3043)
          have eh3043_7 : ri_at h3043 111 7 = ri_at h3037 111 7 := ri_frf Ch3043 (d := 12) rfl rfl (by decide +kernel)
          have eh3043_6 : ri_at h3043 111 6 = ri_at h3037 111 6 := ri_frf Ch3043 (d := 12) rfl rfl (by decide +kernel)
          have eh3043_8 : ri_at h3043 111 8 = ri_at h3037 111 8 := ri_frf Ch3043 (d := 12) rfl rfl (by decide +kernel)
          have eh3043_9 : ri_at h3043 111 9 = ri_at h3037 111 9 := ri_frf Ch3043 (d := 12) rfl rfl (by decide +kernel)
          have eh3043_10 : ri_at h3043 111 10 = ri_at h3037 111 10 := ri_frf Ch3043 (d := 12) rfl rfl (by decide +kernel)
          refine ex_pfi oq_X12_token_186 Th3043 (k := 111) (d := 12) rfl rfl rfl (cw_i32 _).1 (cw_i32 _).2 (fun h3045 Th3045 wh3045 => ?_)
          have Fh3045 : cw_Fr cw_Ds cw_sh kk_X12_token.2.2.2.2.2.1 h0 h3045 := cw_Fr_tr Fh3043 (cw_Fr_wrf wh3045 (k := 111) (d := 12) rfl rfl (by decide +kernel))
          have eh3045_7 : ri_at h3045 111 7 = ri_at h3043 111 7 := ri_ne wh3045 (by decide)
          have eh3045_6 : ri_at h3045 111 6 = ri_at h3043 111 6 := ri_ne wh3045 (by decide)
          have eh3045_8 : ri_at h3045 111 8 = ri_at h3043 111 8 := ri_ne wh3045 (by decide)
          have eh3045_9 : ri_at h3045 111 9 = x3044.toInt := ri_self wh3045
          have eh3045_10 : ri_at h3045 111 10 = ri_at h3043 111 10 := ri_ne wh3045 (by decide)
          refine ex_go oq_X12_token_189 (t := 282) rfl rfl ?_
          exact ex_retv oq_X12_token_282 rfl (hfin h3045 Th3045 Fh3045 (pp_fr1 (by decide +kernel) hP Fh3045 ⟨by omega, by intro q; omega, by intro q; omega⟩) (by omega) (by omega) (by omega))
    · refine ex_al oq_X12_token_101 rfl ?_
      refine ex_dup oq_X12_token_102 rfl ?_
      obtain ⟨x3046, ax3046, rx3046, lx3046, ux3046⟩ := fi_next Th
      refine ex_gf oq_X12_token_103 Th (k := 111) (d := 12) rfl rfl ax3046 ?_
      refine ex_ic oq_X12_token_106 (m := 1) (by decide) (fun x3047 hx3047 => ?_)
      refine ex_add oq_X12_token_107 (by omega) (fun x3048 hx3048 => ?_)
      refine ex_pfi oq_X12_token_108 Th (k := 111) (d := 12) rfl rfl rfl (by omega) (by omega) (fun h3049 Th3049 wh3049 => ?_)
      have Fh3049 : cw_Fr cw_Ds cw_sh kk_X12_token.2.2.2.2.2.1 h0 h3049 := cw_Fr_tr Fh (cw_Fr_wrf wh3049 (k := 111) (d := 12) rfl rfl (by decide +kernel))
      have eh3049_7 : ri_at h3049 111 7 = x3048.toInt := ri_self wh3049
      have eh3049_6 : ri_at h3049 111 6 = ri_at h 111 6 := ri_ne wh3049 (by decide)
      have eh3049_8 : ri_at h3049 111 8 = ri_at h 111 8 := ri_ne wh3049 (by decide)
      have eh3049_9 : ri_at h3049 111 9 = ri_at h 111 9 := ri_ne wh3049 (by decide)
      have eh3049_10 : ri_at h3049 111 10 = ri_at h 111 10 := ri_ne wh3049 (by decide)
      refine ex_go oq_X12_token_111 (t := 90) rfl rfl ?_
      exact ih h3049 Th3049 Fh3049 (by omega) (by omega) (by omega) (by omega) (by omega)
theorem tk_90a {h0 : cv_H} (hs9 : ri_at h0 111 6 ≤ 900) (hX : cw_Xok X) (hpk : cw_Holds fk_all mt_all cw_Ds cw_sh G (cw_PP G) kk_X12_packed) (hP : cw_PP G h0) (hfin : ∀ h, cw_T G h → cw_Fr cw_Ds cw_sh kk_X12_token.2.2.2.2.2.1 h0 h → cw_PP G h → ri_at h 111 6 = ri_at h0 111 6 → ri_at h0 111 7 ≤ ri_at h 111 7 → (ri_at h 111 8 = 0 ∨ ri_at h0 111 7 < ri_at h 111 7) → Q (none, h)) (h : cv_H) (Th : cw_T G h) (Fh : cw_Fr cw_Ds cw_sh kk_X12_token.2.2.2.2.2.1 h0 h) (n1 : ri_at h 111 6 = ri_at h0 111 6) (n2 : ri_at h 111 7 ≤ ri_at h 111 6) (n3 : ri_at h0 111 7 ≤ ri_at h 111 7) (n4 : pp_tk h) (n10 : (ri_at h 111 7 < ri_at h 111 6 ∧ 97 ≤ ri_at h 112 (ri_at h 111 7).toNat ∧ ri_at h 112 (ri_at h 111 7).toNat ≤ 122)) : cw_X X 163 Q 90 (cv_ent 0 [cv_r 111]) [] h := by
  obtain ⟨n5, n7, n8⟩ := n4
  refine ex_al oq_X12_token_90 rfl ?_
  refine ex_al oq_X12_token_91 rfl ?_
  obtain ⟨x6001, ax6001, rx6001, lx6001, ux6001⟩ := fi_next Th
  refine ex_gf oq_X12_token_92 Th (k := 111) (d := 12) rfl rfl ax6001 ?_
  refine ex_cv oq_X12_token_95 (by decide) Th (k := 111) (d := 12) (as := [cv_i x6001]) (stk := []) rfl rfl rfl rfl rfl rfl ⟨rfl, rfl⟩ (R := fun o => ∃ x : Int32, o = (some (cv_i x), h) ∧ 0 ≤ x.toInt ∧ x.toInt ≤ 1 ∧ (x.toInt = 0 ∨ x6001.toInt < ri_at h 111 6) ∧ (x.toInt = 1 ∧ (ri_at h 111 7 < ri_at h 111 6 ∧ 97 ≤ ri_at h 112 (ri_at h 111 7).toNat ∧ ri_at h 112 (ri_at h 111 7).toNat ≤ 122) ∨ x.toInt = 0 ∧ ¬ (ri_at h 111 7 < ri_at h 111 6 ∧ 97 ≤ ri_at h 112 (ri_at h 111 7).toNat ∧ ri_at h 112 (ri_at h 111 7).toNat ≤ 122))) (sp_isSmall Th x6001 (by omega) (by omega) (by omega) (fun x x0 x1 x2 x3 => ⟨x, rfl, x0, x1, x2, x3⟩)) (fun ox6002 hox6002 => ?_)
  obtain ⟨x6002, rfl, lx6002, ux6002, tx6002, dx6002⟩ := hox6002
  show cw_X _ _ _ _ _ [cv_i x6002] h
  refine ex_if0 oq_X12_token_98 (t := 114) rfl rfl (fun (c6003 : x6002.toInt = 0) => ?_) (fun (c6003 : ¬ (x6002.toInt = 0)) => ?_)
  · exfalso; omega
  · refine ex_al oq_X12_token_101 rfl ?_
    refine ex_dup oq_X12_token_102 rfl ?_
    obtain ⟨x6004, ax6004, rx6004, lx6004, ux6004⟩ := fi_next Th
    refine ex_gf oq_X12_token_103 Th (k := 111) (d := 12) rfl rfl ax6004 ?_
    refine ex_ic oq_X12_token_106 (m := 1) (by decide) (fun x6005 hx6005 => ?_)
    refine ex_add oq_X12_token_107 (by omega) (fun x6006 hx6006 => ?_)
    refine ex_pfi oq_X12_token_108 Th (k := 111) (d := 12) rfl rfl rfl (by omega) (by omega) (fun h6007 Th6007 wh6007 => ?_)
    have Fh6007 : cw_Fr cw_Ds cw_sh kk_X12_token.2.2.2.2.2.1 h0 h6007 := cw_Fr_tr Fh (cw_Fr_wrf wh6007 (k := 111) (d := 12) rfl rfl (by decide +kernel))
    have eh6007_7 : ri_at h6007 111 7 = x6006.toInt := ri_self wh6007
    have eh6007_6 : ri_at h6007 111 6 = ri_at h 111 6 := ri_ne wh6007 (by decide)
    have eh6007_8 : ri_at h6007 111 8 = ri_at h 111 8 := ri_ne wh6007 (by decide)
    have eh6007_9 : ri_at h6007 111 9 = ri_at h 111 9 := ri_ne wh6007 (by decide)
    have eh6007_10 : ri_at h6007 111 10 = ri_at h 111 10 := ri_ne wh6007 (by decide)
    refine ex_go oq_X12_token_111 (t := 90) rfl rfl ?_
    exact tk_90 hs9 hX hpk hP hfin _ h6007 Th6007 Fh6007 (by omega) (by omega) (by omega) ⟨by intro q; omega, by intro q; omega⟩ (Nat.le_refl _)
theorem tk_203 {h0 : cv_H} (hs9 : ri_at h0 111 6 ≤ 900) (hX : cw_Xok X) (hpk : cw_Holds fk_all mt_all cw_Ds cw_sh G (cw_PP G) kk_X12_packed) (hP : cw_PP G h0) (hfin : ∀ h, cw_T G h → cw_Fr cw_Ds cw_sh kk_X12_token.2.2.2.2.2.1 h0 h → cw_PP G h → ri_at h 111 6 = ri_at h0 111 6 → ri_at h0 111 7 ≤ ri_at h 111 7 → (ri_at h 111 8 = 0 ∨ ri_at h0 111 7 < ri_at h 111 7) → Q (none, h)) (h : cv_H) (Th : cw_T G h) (Fh : cw_Fr cw_Ds cw_sh kk_X12_token.2.2.2.2.2.1 h0 h) (n1 : ri_at h 111 6 = ri_at h0 111 6) (n2 : ri_at h 111 7 ≤ ri_at h 111 6) (n3 : ri_at h0 111 7 ≤ ri_at h 111 7) (n4 : pp_tk h) (n10 : (ri_at h 111 7 < ri_at h 111 6 ∧ 48 ≤ ri_at h 112 (ri_at h 111 7).toNat ∧ ri_at h 112 (ri_at h 111 7).toNat ≤ 57)) : cw_X X 163 Q 203 (cv_ent 0 [cv_r 111]) [] h := by
  obtain ⟨n5, n7, n8⟩ := n4
  refine ex_al oq_X12_token_203 rfl ?_
  refine ex_ic oq_X12_token_204 (m := 3) (by decide) (fun x7001 hx7001 => ?_)
  refine ex_pfi oq_X12_token_205 Th (k := 111) (d := 12) rfl rfl rfl (by omega) (by omega) (fun h7002 Th7002 wh7002 => ?_)
  have Fh7002 : cw_Fr cw_Ds cw_sh kk_X12_token.2.2.2.2.2.1 h0 h7002 := cw_Fr_tr Fh (cw_Fr_wrf wh7002 (k := 111) (d := 12) rfl rfl (by decide +kernel))
  have eh7002_7 : ri_at h7002 111 7 = ri_at h 111 7 := ri_ne wh7002 (by decide)
  have eh7002_6 : ri_at h7002 111 6 = ri_at h 111 6 := ri_ne wh7002 (by decide)
  have eh7002_8 : ri_at h7002 111 8 = x7001.toInt := ri_self wh7002
  have eh7002_9 : ri_at h7002 111 9 = ri_at h 111 9 := ri_ne wh7002 (by decide)
  have eh7002_10 : ri_at h7002 111 10 = ri_at h 111 10 := ri_ne wh7002 (by decide)
  refine ex_al oq_X12_token_208 rfl ?_
  refine ex_ic oq_X12_token_209 (m := 0) (by decide) (fun x7003 hx7003 => ?_)
  refine ex_pfi oq_X12_token_210 Th7002 (k := 111) (d := 12) rfl rfl rfl (cw_i32 _).1 (cw_i32 _).2 (fun h7004 Th7004 wh7004 => ?_)
  have Fh7004 : cw_Fr cw_Ds cw_sh kk_X12_token.2.2.2.2.2.1 h0 h7004 := cw_Fr_tr Fh7002 (cw_Fr_wrf wh7004 (k := 111) (d := 12) rfl rfl (by decide +kernel))
  have eh7004_7 : ri_at h7004 111 7 = ri_at h7002 111 7 := ri_ne wh7004 (by decide)
  have eh7004_6 : ri_at h7004 111 6 = ri_at h7002 111 6 := ri_ne wh7004 (by decide)
  have eh7004_8 : ri_at h7004 111 8 = ri_at h7002 111 8 := ri_ne wh7004 (by decide)
  have eh7004_9 : ri_at h7004 111 9 = x7003.toInt := ri_self wh7004
  have eh7004_10 : ri_at h7004 111 10 = ri_at h7002 111 10 := ri_ne wh7004 (by decide)
  have q7 : ri_at h7004 111 7 = ri_at h 111 7 := by omega
  have q8 : ri_at h7004 112 (ri_at h 111 7).toNat = ri_at h 112 (ri_at h 111 7).toNat := ((ri_ne wh7004 (k' := 112) (i' := (ri_at h 111 7).toNat) (.inl (by decide))).trans (ri_ne wh7002 (k' := 112) (i' := (ri_at h 111 7).toNat) (.inl (by decide))))
  have q9 : ri_at h7004 112 (ri_at h7004 111 7).toNat = ri_at h 112 (ri_at h 111 7).toNat := by rw [q7]; exact q8
  refine ex_al oq_X12_token_213 rfl ?_
  refine ex_al oq_X12_token_214 rfl ?_
  obtain ⟨x7005, ax7005, rx7005, lx7005, ux7005⟩ := fi_next Th7004
  refine ex_gf oq_X12_token_215 Th7004 (k := 111) (d := 12) rfl rfl ax7005 ?_
  refine ex_cv oq_X12_token_218 (by decide) Th7004 (k := 111) (d := 12) (as := [cv_i x7005]) (stk := []) rfl rfl rfl rfl rfl rfl ⟨rfl, rfl⟩ (R := fun o => ∃ x : Int32, o = (some (cv_i x), h7004) ∧ 0 ≤ x.toInt ∧ x.toInt ≤ 1 ∧ (x.toInt = 0 ∨ x7005.toInt < ri_at h7004 111 6) ∧ (x.toInt = 1 ∧ (ri_at h7004 111 7 < ri_at h7004 111 6 ∧ 48 ≤ ri_at h7004 112 (ri_at h7004 111 7).toNat ∧ ri_at h7004 112 (ri_at h7004 111 7).toNat ≤ 57) ∨ x.toInt = 0 ∧ ¬ (ri_at h7004 111 7 < ri_at h7004 111 6 ∧ 48 ≤ ri_at h7004 112 (ri_at h7004 111 7).toNat ∧ ri_at h7004 112 (ri_at h7004 111 7).toNat ≤ 57))) (sp_isDigit Th7004 x7005 (by omega) (by omega) (by omega) (fun x x0 x1 x2 x3 => ⟨x, rfl, x0, x1, x2, x3⟩)) (fun ox7006 hox7006 => ?_)
  obtain ⟨x7006, rfl, lx7006, ux7006, tx7006, dx7006⟩ := hox7006
  show cw_X _ _ _ _ _ [cv_i x7006] h7004
  refine ex_if0 oq_X12_token_221 (t := 282) rfl rfl (fun (c7007 : x7006.toInt = 0) => ?_) (fun (c7007 : ¬ (x7006.toInt = 0)) => ?_)
  · exfalso; omega
  · refine ex_al oq_X12_token_224 rfl ?_
    refine ex_al oq_X12_token_225 rfl ?_
    obtain ⟨x7008, ax7008, rx7008, lx7008, ux7008⟩ := fi_which Th7004
    refine ex_gf oq_X12_token_226 Th7004 (k := 111) (d := 12) rfl rfl ax7008 ?_
    refine ex_si oq_X12_token_229 (m := 9999) (by decide) (fun x7009 hx7009 => ?_)
    refine ex_if oq_X12_token_232 (t := 242) rfl rfl (fun (c7010 : x7008.toInt ≤ x7009.toInt) => ?_) (fun (c7010 : ¬ (x7008.toInt ≤ x7009.toInt)) => ?_)
    · refine ex_bi oq_X12_token_242 (m := 10) (by decide) (fun x7011 hx7011 => ?_)
      refine ex_al oq_X12_token_244 rfl ?_
      obtain ⟨x7012, ax7012, rx7012, lx7012, ux7012⟩ := fi_which Th7004
      refine ex_gf oq_X12_token_245 Th7004 (k := 111) (d := 12) rfl rfl ax7012 ?_
      refine ex_any (f := fun x y => some x) oq_X12_token_248 rfl (fun x7013 => ?_)
      refine ex_al oq_X12_token_249 rfl ?_
      refine ex_gf oq_X12_token_250 Th7004 (k := 111) (d := 12) rfl rfl (fr_tape Th7004) ?_
      refine ex_al oq_X12_token_253 rfl ?_
      obtain ⟨x7014, ax7014, rx7014, lx7014, ux7014⟩ := fi_next Th7004
      refine ex_gf oq_X12_token_254 Th7004 (k := 111) (d := 12) rfl rfl ax7014 ?_
      refine ex_ia1 oq_X12_token_257 Th7004 (k := 112) (d := 51) (j := x7014.toInt.toNat) rfl rfl (by omega) (by omega) (fun x7015 hx7015 lx7015 ux7015 => ?_)
      refine ex_any (f := fun x y => some x) oq_X12_token_258 rfl (fun x7016 => ?_)
      refine ex_bi oq_X12_token_259 (m := 48) (by decide) (fun x7017 hx7017 => ?_)
      refine ex_any (f := fun x y => some x) oq_X12_token_261 rfl (fun x7018 => ?_)
      refine ex_pfi oq_X12_token_262 Th7004 (k := 111) (d := 12) rfl rfl rfl (cw_i32 _).1 (cw_i32 _).2 (fun h7019 Th7019 wh7019 => ?_)
      have Fh7019 : cw_Fr cw_Ds cw_sh kk_X12_token.2.2.2.2.2.1 h0 h7019 := cw_Fr_tr Fh7004 (cw_Fr_wrf wh7019 (k := 111) (d := 12) rfl rfl (by decide +kernel))
      have eh7019_7 : ri_at h7019 111 7 = ri_at h7004 111 7 := ri_ne wh7019 (by decide)
      have eh7019_6 : ri_at h7019 111 6 = ri_at h7004 111 6 := ri_ne wh7019 (by decide)
      have eh7019_8 : ri_at h7019 111 8 = ri_at h7004 111 8 := ri_ne wh7019 (by decide)
      have eh7019_9 : ri_at h7019 111 9 = x7018.toInt := ri_self wh7019
      have eh7019_10 : ri_at h7019 111 10 = ri_at h7004 111 10 := ri_ne wh7019 (by decide)
      refine ex_al oq_X12_token_265 rfl ?_
      refine ex_dup oq_X12_token_266 rfl ?_
      obtain ⟨x7020, ax7020, rx7020, lx7020, ux7020⟩ := fi_next Th7019
      refine ex_gf oq_X12_token_267 Th7019 (k := 111) (d := 12) rfl rfl ax7020 ?_
      refine ex_ic oq_X12_token_270 (m := 1) (by decide) (fun x7021 hx7021 => ?_)
      refine ex_add oq_X12_token_271 (by omega) (fun x7022 hx7022 => ?_)
      refine ex_pfi oq_X12_token_272 Th7019 (k := 111) (d := 12) rfl rfl rfl (by omega) (by omega) (fun h7023 Th7023 wh7023 => ?_)
      have Fh7023 : cw_Fr cw_Ds cw_sh kk_X12_token.2.2.2.2.2.1 h0 h7023 := cw_Fr_tr Fh7019 (cw_Fr_wrf wh7023 (k := 111) (d := 12) rfl rfl (by decide +kernel))
      have eh7023_7 : ri_at h7023 111 7 = x7022.toInt := ri_self wh7023
      have eh7023_6 : ri_at h7023 111 6 = ri_at h7019 111 6 := ri_ne wh7023 (by decide)
      have eh7023_8 : ri_at h7023 111 8 = ri_at h7019 111 8 := ri_ne wh7023 (by decide)
      have eh7023_9 : ri_at h7023 111 9 = ri_at h7019 111 9 := ri_ne wh7023 (by decide)
      have eh7023_10 : ri_at h7023 111 10 = ri_at h7019 111 10 := ri_ne wh7023 (by decide)
      refine ex_go oq_X12_token_275 (t := 213) rfl rfl ?_
      exact tk_213 hs9 hP hfin True _ h7023 Th7023 Fh7023 (by omega) (by omega) (by omega) (by omega) (Nat.le_refl _)
    · refine ex_al oq_X12_token_235 rfl ?_
      obtain ⟨x7024, ax7024, rx7024, lx7024, ux7024⟩ := fi_which Th7004
      refine ex_gf oq_X12_token_236 Th7004 (k := 111) (d := 12) rfl rfl ax7024 ?_
      refine ex_go oq_X12_token_239 (t := 262) rfl rfl ?_
      refine ex_pfi oq_X12_token_262 Th7004 (k := 111) (d := 12) rfl rfl rfl (cw_i32 _).1 (cw_i32 _).2 (fun h7025 Th7025 wh7025 => ?_)
      have Fh7025 : cw_Fr cw_Ds cw_sh kk_X12_token.2.2.2.2.2.1 h0 h7025 := cw_Fr_tr Fh7004 (cw_Fr_wrf wh7025 (k := 111) (d := 12) rfl rfl (by decide +kernel))
      have eh7025_7 : ri_at h7025 111 7 = ri_at h7004 111 7 := ri_ne wh7025 (by decide)
      have eh7025_6 : ri_at h7025 111 6 = ri_at h7004 111 6 := ri_ne wh7025 (by decide)
      have eh7025_8 : ri_at h7025 111 8 = ri_at h7004 111 8 := ri_ne wh7025 (by decide)
      have eh7025_9 : ri_at h7025 111 9 = x7024.toInt := ri_self wh7025
      have eh7025_10 : ri_at h7025 111 10 = ri_at h7004 111 10 := ri_ne wh7025 (by decide)
      refine ex_al oq_X12_token_265 rfl ?_
      refine ex_dup oq_X12_token_266 rfl ?_
      obtain ⟨x7026, ax7026, rx7026, lx7026, ux7026⟩ := fi_next Th7025
      refine ex_gf oq_X12_token_267 Th7025 (k := 111) (d := 12) rfl rfl ax7026 ?_
      refine ex_ic oq_X12_token_270 (m := 1) (by decide) (fun x7027 hx7027 => ?_)
      refine ex_add oq_X12_token_271 (by omega) (fun x7028 hx7028 => ?_)
      refine ex_pfi oq_X12_token_272 Th7025 (k := 111) (d := 12) rfl rfl rfl (by omega) (by omega) (fun h7029 Th7029 wh7029 => ?_)
      have Fh7029 : cw_Fr cw_Ds cw_sh kk_X12_token.2.2.2.2.2.1 h0 h7029 := cw_Fr_tr Fh7025 (cw_Fr_wrf wh7029 (k := 111) (d := 12) rfl rfl (by decide +kernel))
      have eh7029_7 : ri_at h7029 111 7 = x7028.toInt := ri_self wh7029
      have eh7029_6 : ri_at h7029 111 6 = ri_at h7025 111 6 := ri_ne wh7029 (by decide)
      have eh7029_8 : ri_at h7029 111 8 = ri_at h7025 111 8 := ri_ne wh7029 (by decide)
      have eh7029_9 : ri_at h7029 111 9 = ri_at h7025 111 9 := ri_ne wh7029 (by decide)
      have eh7029_10 : ri_at h7029 111 10 = ri_at h7025 111 10 := ri_ne wh7029 (by decide)
      refine ex_go oq_X12_token_275 (t := 213) rfl rfl ?_
      exact tk_213 hs9 hP hfin True _ h7029 Th7029 Fh7029 (by omega) (by omega) (by omega) (by omega) (Nat.le_refl _)
theorem tk_52 {h0 : cv_H} (hs9 : ri_at h0 111 6 ≤ 900) (hX : cw_Xok X) (hpk : cw_Holds fk_all mt_all cw_Ds cw_sh G (cw_PP G) kk_X12_packed) (hP : cw_PP G h0) (hfin : ∀ h, cw_T G h → cw_Fr cw_Ds cw_sh kk_X12_token.2.2.2.2.2.1 h0 h → cw_PP G h → ri_at h 111 6 = ri_at h0 111 6 → ri_at h0 111 7 ≤ ri_at h 111 7 → (ri_at h 111 8 = 0 ∨ ri_at h0 111 7 < ri_at h 111 7) → Q (none, h)) (h : cv_H) (Th : cw_T G h) (Fh : cw_Fr cw_Ds cw_sh kk_X12_token.2.2.2.2.2.1 h0 h) (n1 : ri_at h 111 6 = ri_at h0 111 6) (n2 : ri_at h 111 7 ≤ ri_at h 111 6) (n3 : ri_at h0 111 7 ≤ ri_at h 111 7) (n4 : pp_tk h) : cw_X X 163 Q 52 (cv_ent 0 [cv_r 111]) [] h := by
  obtain ⟨n5, n7, n8⟩ := n4
  refine ex_al oq_X12_token_52 rfl ?_
  refine ex_al oq_X12_token_53 rfl ?_
  obtain ⟨x8001, ax8001, rx8001, lx8001, ux8001⟩ := fi_next Th
  refine ex_gf oq_X12_token_54 Th (k := 111) (d := 12) rfl rfl ax8001 ?_
  refine ex_pfi oq_X12_token_57 Th (k := 111) (d := 12) rfl rfl rfl (by omega) (by omega) (fun h8002 Th8002 wh8002 => ?_)
  have Fh8002 : cw_Fr cw_Ds cw_sh kk_X12_token.2.2.2.2.2.1 h0 h8002 := cw_Fr_tr Fh (cw_Fr_wrf wh8002 (k := 111) (d := 12) rfl rfl (by decide +kernel))
  have eh8002_7 : ri_at h8002 111 7 = ri_at h 111 7 := ri_ne wh8002 (by decide)
  have eh8002_6 : ri_at h8002 111 6 = ri_at h 111 6 := ri_ne wh8002 (by decide)
  have eh8002_8 : ri_at h8002 111 8 = ri_at h 111 8 := ri_ne wh8002 (by decide)
  have eh8002_9 : ri_at h8002 111 9 = ri_at h 111 9 := ri_ne wh8002 (by decide)
  have eh8002_10 : ri_at h8002 111 10 = x8001.toInt := ri_self wh8002
  refine ex_al oq_X12_token_60 rfl ?_
  obtain ⟨x8003, ax8003, rx8003, lx8003, ux8003⟩ := fi_next Th8002
  refine ex_gf oq_X12_token_61 Th8002 (k := 111) (d := 12) rfl rfl ax8003 ?_
  refine ex_al oq_X12_token_64 rfl ?_
  obtain ⟨x8004, ax8004, rx8004, lx8004, ux8004⟩ := fi_stop Th8002
  refine ex_gf oq_X12_token_65 Th8002 (k := 111) (d := 12) rfl rfl ax8004 ?_
  refine ex_if oq_X12_token_68 (t := 79) rfl rfl (fun (c8005 : ¬ x8003.toInt = x8004.toInt) => ?_) (fun (c8005 : ¬ (¬ x8003.toInt = x8004.toInt)) => ?_)
  · refine ex_al oq_X12_token_79 rfl ?_
    refine ex_al oq_X12_token_80 rfl ?_
    obtain ⟨x8006, ax8006, rx8006, lx8006, ux8006⟩ := fi_next Th8002
    refine ex_gf oq_X12_token_81 Th8002 (k := 111) (d := 12) rfl rfl ax8006 ?_
    refine ex_cv oq_X12_token_84 (by decide) Th8002 (k := 111) (d := 12) (as := [cv_i x8006]) (stk := []) rfl rfl rfl rfl rfl rfl ⟨rfl, rfl⟩ (R := fun o => ∃ x : Int32, o = (some (cv_i x), h8002) ∧ 0 ≤ x.toInt ∧ x.toInt ≤ 1 ∧ (x.toInt = 0 ∨ x8006.toInt < ri_at h8002 111 6) ∧ (x.toInt = 1 ∧ (ri_at h8002 111 7 < ri_at h8002 111 6 ∧ 97 ≤ ri_at h8002 112 (ri_at h8002 111 7).toNat ∧ ri_at h8002 112 (ri_at h8002 111 7).toNat ≤ 122) ∨ x.toInt = 0 ∧ ¬ (ri_at h8002 111 7 < ri_at h8002 111 6 ∧ 97 ≤ ri_at h8002 112 (ri_at h8002 111 7).toNat ∧ ri_at h8002 112 (ri_at h8002 111 7).toNat ≤ 122))) (sp_isSmall Th8002 x8006 (by omega) (by omega) (by omega) (fun x x0 x1 x2 x3 => ⟨x, rfl, x0, x1, x2, x3⟩)) (fun ox8007 hox8007 => ?_)
    obtain ⟨x8007, rfl, lx8007, ux8007, tx8007, dx8007⟩ := hox8007
    show cw_X _ _ _ _ _ [cv_i x8007] h8002
    refine ex_if0 oq_X12_token_87 (t := 192) rfl rfl (fun (c8008 : x8007.toInt = 0) => ?_) (fun (c8008 : ¬ (x8007.toInt = 0)) => ?_)
    · refine ex_al oq_X12_token_192 rfl ?_
      refine ex_al oq_X12_token_193 rfl ?_
      obtain ⟨x8009, ax8009, rx8009, lx8009, ux8009⟩ := fi_next Th8002
      refine ex_gf oq_X12_token_194 Th8002 (k := 111) (d := 12) rfl rfl ax8009 ?_
      refine ex_cv oq_X12_token_197 (by decide) Th8002 (k := 111) (d := 12) (as := [cv_i x8009]) (stk := []) rfl rfl rfl rfl rfl rfl ⟨rfl, rfl⟩ (R := fun o => ∃ x : Int32, o = (some (cv_i x), h8002) ∧ 0 ≤ x.toInt ∧ x.toInt ≤ 1 ∧ (x.toInt = 0 ∨ x8009.toInt < ri_at h8002 111 6) ∧ (x.toInt = 1 ∧ (ri_at h8002 111 7 < ri_at h8002 111 6 ∧ 48 ≤ ri_at h8002 112 (ri_at h8002 111 7).toNat ∧ ri_at h8002 112 (ri_at h8002 111 7).toNat ≤ 57) ∨ x.toInt = 0 ∧ ¬ (ri_at h8002 111 7 < ri_at h8002 111 6 ∧ 48 ≤ ri_at h8002 112 (ri_at h8002 111 7).toNat ∧ ri_at h8002 112 (ri_at h8002 111 7).toNat ≤ 57))) (sp_isDigit Th8002 x8009 (by omega) (by omega) (by omega) (fun x x0 x1 x2 x3 => ⟨x, rfl, x0, x1, x2, x3⟩)) (fun ox8010 hox8010 => ?_)
      obtain ⟨x8010, rfl, lx8010, ux8010, tx8010, dx8010⟩ := hox8010
      show cw_X _ _ _ _ _ [cv_i x8010] h8002
      refine ex_if0 oq_X12_token_200 (t := 278) rfl rfl (fun (c8011 : x8010.toInt = 0) => ?_) (fun (c8011 : ¬ (x8010.toInt = 0)) => ?_)
      · refine ex_al oq_X12_token_278 rfl ?_
        refine ex_cv oq_X12_token_279 (by decide) Th8002 (k := 111) (d := 12) (as := []) (stk := []) rfl rfl rfl rfl rfl rfl ⟨rfl, rfl⟩ (R := fun o => ∃ h, o = (none, h) ∧ cw_T G h ∧ cw_Fr cw_Ds cw_sh kk_X12_signToken.2.2.2.2.2.1 h8002 h ∧ ri_at h8002 111 7 < ri_at h 111 7 ∧ ri_at h 111 7 ≤ ri_at h8002 111 6 ∧ ri_at h 111 6 = ri_at h8002 111 6 ∧ ri_at h 111 8 ≠ 0 ∧ ri_at h 111 8 ≠ 1 ∧ (ri_at h 111 8 = 5 → 0 ≤ ri_at h 111 9 ∧ ri_at h 111 9 ≤ 5)) (sp_signToken Th8002 (by omega) (fun h a1 a2 a3 a4 a5 a6 a7 a8 => ⟨h, rfl, a1, a2, a3, a4, a5, a6, a7, a8⟩)) (fun o ho => ?_)
        obtain ⟨h8012, rfl, Th8012, Ch8012, s3, s4, s5, s6, s7, s8⟩ := ho
        show cw_X _ _ _ _ _ [] h8012
        have Fh8012 : cw_Fr cw_Ds cw_sh kk_X12_token.2.2.2.2.2.1 h0 h8012 := cw_Fr_tr Fh8002 (cw_Fr_mono (by decide +kernel) Ch8012)
        exact ex_retv oq_X12_token_282 rfl (hfin h8012 Th8012 Fh8012 (pp_fr1 (by decide +kernel) hP Fh8012 ⟨by omega, by intro q; omega, by intro q; omega⟩) (by omega) (by omega) (by omega))
      · exact tk_203 hs9 hX hpk hP hfin h8002 Th8002 Fh8002 (by omega) (by omega) (by omega) ⟨by omega, by intro q; omega, by intro q; omega⟩ (by omega)
    · exact tk_90a hs9 hX hpk hP hfin h8002 Th8002 Fh8002 (by omega) (by omega) (by omega) ⟨by omega, by intro q; omega, by intro q; omega⟩ (by omega)
  · refine ex_al oq_X12_token_71 rfl ?_
    refine ex_ic oq_X12_token_72 (m := 0) (by decide) (fun x8013 hx8013 => ?_)
    refine ex_pfi oq_X12_token_73 Th8002 (k := 111) (d := 12) rfl rfl rfl (by omega) (by omega) (fun h8014 Th8014 wh8014 => ?_)
    have Fh8014 : cw_Fr cw_Ds cw_sh kk_X12_token.2.2.2.2.2.1 h0 h8014 := cw_Fr_tr Fh8002 (cw_Fr_wrf wh8014 (k := 111) (d := 12) rfl rfl (by decide +kernel))
    have eh8014_7 : ri_at h8014 111 7 = ri_at h8002 111 7 := ri_ne wh8014 (by decide)
    have eh8014_6 : ri_at h8014 111 6 = ri_at h8002 111 6 := ri_ne wh8014 (by decide)
    have eh8014_8 : ri_at h8014 111 8 = x8013.toInt := ri_self wh8014
    have eh8014_9 : ri_at h8014 111 9 = ri_at h8002 111 9 := ri_ne wh8014 (by decide)
    have eh8014_10 : ri_at h8014 111 10 = ri_at h8002 111 10 := ri_ne wh8014 (by decide)
    refine ex_go oq_X12_token_76 (t := 282) rfl rfl ?_
    exact ex_retv oq_X12_token_282 rfl (hfin h8014 Th8014 Fh8014 (pp_fr1 (by decide +kernel) hP Fh8014 ⟨by omega, by intro q; omega, by intro q; omega⟩) (by omega) (by omega) (by omega))
theorem tk_0 {h0 : cv_H} (hs9 : ri_at h0 111 6 ≤ 900) (hX : cw_Xok X) (hpk : cw_Holds fk_all mt_all cw_Ds cw_sh G (cw_PP G) kk_X12_packed) (hP : cw_PP G h0) (hfin : ∀ h, cw_T G h → cw_Fr cw_Ds cw_sh kk_X12_token.2.2.2.2.2.1 h0 h → cw_PP G h → ri_at h 111 6 = ri_at h0 111 6 → ri_at h0 111 7 ≤ ri_at h 111 7 → (ri_at h 111 8 = 0 ∨ ri_at h0 111 7 < ri_at h 111 7) → Q (none, h)) : ∀ (N : Nat) (h : cv_H), cw_T G h → cw_Fr cw_Ds cw_sh kk_X12_token.2.2.2.2.2.1 h0 h → ri_at h 111 6 = ri_at h0 111 6 → ri_at h 111 7 ≤ ri_at h 111 6 → ri_at h0 111 7 ≤ ri_at h 111 7 → pp_tk h → (ri_at h 111 6 - ri_at h 111 7).toNat ≤ N → cw_X X 163 Q 0 (cv_ent 0 [cv_r 111]) [] h := by
  intro N
  induction N with
  | zero =>
    intro h Th Fh n1 n2 n3 n4 hN
    obtain ⟨n5, n7, n8⟩ := n4
    refine ex_al oq_X12_token_0 rfl ?_
    obtain ⟨x9001, ax9001, rx9001, lx9001, ux9001⟩ := fi_next Th
    refine ex_gf oq_X12_token_1 Th (k := 111) (d := 12) rfl rfl ax9001 ?_
    refine ex_al oq_X12_token_4 rfl ?_
    obtain ⟨x9002, ax9002, rx9002, lx9002, ux9002⟩ := fi_stop Th
    refine ex_gf oq_X12_token_5 Th (k := 111) (d := 12) rfl rfl ax9002 ?_
    refine ex_if oq_X12_token_8 (t := 52) rfl rfl (fun (c9003 : x9002.toInt ≤ x9001.toInt) => ?_) (fun (c9003 : ¬ (x9002.toInt ≤ x9001.toInt)) => ?_)
    · exact tk_52 hs9 hX hpk hP hfin h Th Fh (by omega) (by omega) (by omega) ⟨n5, n7, n8⟩
    · refine ex_al oq_X12_token_11 rfl ?_
      refine ex_gf oq_X12_token_12 Th (k := 111) (d := 12) rfl rfl (fr_tape Th) ?_
      refine ex_al oq_X12_token_15 rfl ?_
      obtain ⟨x9004, ax9004, rx9004, lx9004, ux9004⟩ := fi_next Th
      refine ex_gf oq_X12_token_16 Th (k := 111) (d := 12) rfl rfl ax9004 ?_
      refine ex_ia1 oq_X12_token_19 Th (k := 112) (d := 51) (j := x9004.toInt.toNat) rfl rfl (by omega) (by omega) (fun x9005 hx9005 lx9005 ux9005 => ?_)
      refine ex_bi oq_X12_token_20 (m := 10) (by decide) (fun x9006 hx9006 => ?_)
      refine ex_if oq_X12_token_22 (t := 39) rfl rfl (fun (c9007 : x9005.toInt = x9006.toInt) => ?_) (fun (c9007 : ¬ (x9005.toInt = x9006.toInt)) => ?_)
      · refine ex_al oq_X12_token_39 rfl ?_
        refine ex_dup oq_X12_token_40 rfl ?_
        obtain ⟨x9008, ax9008, rx9008, lx9008, ux9008⟩ := fi_next Th
        refine ex_gf oq_X12_token_41 Th (k := 111) (d := 12) rfl rfl ax9008 ?_
        refine ex_ic oq_X12_token_44 (m := 1) (by decide) (fun x9009 hx9009 => ?_)
        refine ex_add oq_X12_token_45 (by omega) (fun x9010 hx9010 => ?_)
        refine ex_pfi oq_X12_token_46 Th (k := 111) (d := 12) rfl rfl rfl (by omega) (by omega) (fun h9011 Th9011 wh9011 => ?_)
        have Fh9011 : cw_Fr cw_Ds cw_sh kk_X12_token.2.2.2.2.2.1 h0 h9011 := cw_Fr_tr Fh (cw_Fr_wrf wh9011 (k := 111) (d := 12) rfl rfl (by decide +kernel))
        have eh9011_7 : ri_at h9011 111 7 = x9010.toInt := ri_self wh9011
        have eh9011_6 : ri_at h9011 111 6 = ri_at h 111 6 := ri_ne wh9011 (by decide)
        have eh9011_8 : ri_at h9011 111 8 = ri_at h 111 8 := ri_ne wh9011 (by decide)
        have eh9011_9 : ri_at h9011 111 9 = ri_at h 111 9 := ri_ne wh9011 (by decide)
        have eh9011_10 : ri_at h9011 111 10 = ri_at h 111 10 := ri_ne wh9011 (by decide)
        refine ex_go oq_X12_token_49 (t := 0) rfl rfl ?_
        exfalso; omega -- h9011 Th9011 Fh9011 (by omega) (by omega) (by omega) ⟨by omega, by intro q; omega, by intro q; omega⟩ (by omega)
      · refine ex_al oq_X12_token_25 rfl ?_
        refine ex_gf oq_X12_token_26 Th (k := 111) (d := 12) rfl rfl (fr_tape Th) ?_
        refine ex_al oq_X12_token_29 rfl ?_
        obtain ⟨x9012, ax9012, rx9012, lx9012, ux9012⟩ := fi_next Th
        refine ex_gf oq_X12_token_30 Th (k := 111) (d := 12) rfl rfl ax9012 ?_
        refine ex_ia1 oq_X12_token_33 Th (k := 112) (d := 51) (j := x9012.toInt.toNat) rfl rfl (by omega) (by omega) (fun x9013 hx9013 lx9013 ux9013 => ?_)
        refine ex_bi oq_X12_token_34 (m := 32) (by decide) (fun x9014 hx9014 => ?_)
        refine ex_if oq_X12_token_36 (t := 52) rfl rfl (fun (c9015 : ¬ x9013.toInt = x9014.toInt) => ?_) (fun (c9015 : ¬ (¬ x9013.toInt = x9014.toInt)) => ?_)
        · exact tk_52 hs9 hX hpk hP hfin h Th Fh (by omega) (by omega) (by omega) ⟨n5, n7, n8⟩
        · refine ex_al oq_X12_token_39 rfl ?_
          refine ex_dup oq_X12_token_40 rfl ?_
          obtain ⟨x9016, ax9016, rx9016, lx9016, ux9016⟩ := fi_next Th
          refine ex_gf oq_X12_token_41 Th (k := 111) (d := 12) rfl rfl ax9016 ?_
          refine ex_ic oq_X12_token_44 (m := 1) (by decide) (fun x9017 hx9017 => ?_)
          refine ex_add oq_X12_token_45 (by omega) (fun x9018 hx9018 => ?_)
          refine ex_pfi oq_X12_token_46 Th (k := 111) (d := 12) rfl rfl rfl (by omega) (by omega) (fun h9019 Th9019 wh9019 => ?_)
          have Fh9019 : cw_Fr cw_Ds cw_sh kk_X12_token.2.2.2.2.2.1 h0 h9019 := cw_Fr_tr Fh (cw_Fr_wrf wh9019 (k := 111) (d := 12) rfl rfl (by decide +kernel))
          have eh9019_7 : ri_at h9019 111 7 = x9018.toInt := ri_self wh9019
          have eh9019_6 : ri_at h9019 111 6 = ri_at h 111 6 := ri_ne wh9019 (by decide)
          have eh9019_8 : ri_at h9019 111 8 = ri_at h 111 8 := ri_ne wh9019 (by decide)
          have eh9019_9 : ri_at h9019 111 9 = ri_at h 111 9 := ri_ne wh9019 (by decide)
          have eh9019_10 : ri_at h9019 111 10 = ri_at h 111 10 := ri_ne wh9019 (by decide)
          refine ex_go oq_X12_token_49 (t := 0) rfl rfl ?_
          exfalso; omega -- h9019 Th9019 Fh9019 (by omega) (by omega) (by omega) ⟨by omega, by intro q; omega, by intro q; omega⟩ (by omega)
  | succ N ih =>
    intro h Th Fh n1 n2 n3 n4 hN
    obtain ⟨n5, n7, n8⟩ := n4
    refine ex_al oq_X12_token_0 rfl ?_
    obtain ⟨x9001, ax9001, rx9001, lx9001, ux9001⟩ := fi_next Th
    refine ex_gf oq_X12_token_1 Th (k := 111) (d := 12) rfl rfl ax9001 ?_
    refine ex_al oq_X12_token_4 rfl ?_
    obtain ⟨x9002, ax9002, rx9002, lx9002, ux9002⟩ := fi_stop Th
    refine ex_gf oq_X12_token_5 Th (k := 111) (d := 12) rfl rfl ax9002 ?_
    refine ex_if oq_X12_token_8 (t := 52) rfl rfl (fun (c9003 : x9002.toInt ≤ x9001.toInt) => ?_) (fun (c9003 : ¬ (x9002.toInt ≤ x9001.toInt)) => ?_)
    · exact tk_52 hs9 hX hpk hP hfin h Th Fh (by omega) (by omega) (by omega) ⟨n5, n7, n8⟩
    · refine ex_al oq_X12_token_11 rfl ?_
      refine ex_gf oq_X12_token_12 Th (k := 111) (d := 12) rfl rfl (fr_tape Th) ?_
      refine ex_al oq_X12_token_15 rfl ?_
      obtain ⟨x9004, ax9004, rx9004, lx9004, ux9004⟩ := fi_next Th
      refine ex_gf oq_X12_token_16 Th (k := 111) (d := 12) rfl rfl ax9004 ?_
      refine ex_ia1 oq_X12_token_19 Th (k := 112) (d := 51) (j := x9004.toInt.toNat) rfl rfl (by omega) (by omega) (fun x9005 hx9005 lx9005 ux9005 => ?_)
      refine ex_bi oq_X12_token_20 (m := 10) (by decide) (fun x9006 hx9006 => ?_)
      refine ex_if oq_X12_token_22 (t := 39) rfl rfl (fun (c9007 : x9005.toInt = x9006.toInt) => ?_) (fun (c9007 : ¬ (x9005.toInt = x9006.toInt)) => ?_)
      · refine ex_al oq_X12_token_39 rfl ?_
        refine ex_dup oq_X12_token_40 rfl ?_
        obtain ⟨x9008, ax9008, rx9008, lx9008, ux9008⟩ := fi_next Th
        refine ex_gf oq_X12_token_41 Th (k := 111) (d := 12) rfl rfl ax9008 ?_
        refine ex_ic oq_X12_token_44 (m := 1) (by decide) (fun x9009 hx9009 => ?_)
        refine ex_add oq_X12_token_45 (by omega) (fun x9010 hx9010 => ?_)
        refine ex_pfi oq_X12_token_46 Th (k := 111) (d := 12) rfl rfl rfl (by omega) (by omega) (fun h9011 Th9011 wh9011 => ?_)
        have Fh9011 : cw_Fr cw_Ds cw_sh kk_X12_token.2.2.2.2.2.1 h0 h9011 := cw_Fr_tr Fh (cw_Fr_wrf wh9011 (k := 111) (d := 12) rfl rfl (by decide +kernel))
        have eh9011_7 : ri_at h9011 111 7 = x9010.toInt := ri_self wh9011
        have eh9011_6 : ri_at h9011 111 6 = ri_at h 111 6 := ri_ne wh9011 (by decide)
        have eh9011_8 : ri_at h9011 111 8 = ri_at h 111 8 := ri_ne wh9011 (by decide)
        have eh9011_9 : ri_at h9011 111 9 = ri_at h 111 9 := ri_ne wh9011 (by decide)
        have eh9011_10 : ri_at h9011 111 10 = ri_at h 111 10 := ri_ne wh9011 (by decide)
        refine ex_go oq_X12_token_49 (t := 0) rfl rfl ?_
        exact ih h9011 Th9011 Fh9011 (by omega) (by omega) (by omega) ⟨by omega, by intro q; omega, by intro q; omega⟩ (by omega)
      · refine ex_al oq_X12_token_25 rfl ?_
        refine ex_gf oq_X12_token_26 Th (k := 111) (d := 12) rfl rfl (fr_tape Th) ?_
        refine ex_al oq_X12_token_29 rfl ?_
        obtain ⟨x9012, ax9012, rx9012, lx9012, ux9012⟩ := fi_next Th
        refine ex_gf oq_X12_token_30 Th (k := 111) (d := 12) rfl rfl ax9012 ?_
        refine ex_ia1 oq_X12_token_33 Th (k := 112) (d := 51) (j := x9012.toInt.toNat) rfl rfl (by omega) (by omega) (fun x9013 hx9013 lx9013 ux9013 => ?_)
        refine ex_bi oq_X12_token_34 (m := 32) (by decide) (fun x9014 hx9014 => ?_)
        refine ex_if oq_X12_token_36 (t := 52) rfl rfl (fun (c9015 : ¬ x9013.toInt = x9014.toInt) => ?_) (fun (c9015 : ¬ (¬ x9013.toInt = x9014.toInt)) => ?_)
        · exact tk_52 hs9 hX hpk hP hfin h Th Fh (by omega) (by omega) (by omega) ⟨n5, n7, n8⟩
        · refine ex_al oq_X12_token_39 rfl ?_
          refine ex_dup oq_X12_token_40 rfl ?_
          obtain ⟨x9016, ax9016, rx9016, lx9016, ux9016⟩ := fi_next Th
          refine ex_gf oq_X12_token_41 Th (k := 111) (d := 12) rfl rfl ax9016 ?_
          refine ex_ic oq_X12_token_44 (m := 1) (by decide) (fun x9017 hx9017 => ?_)
          refine ex_add oq_X12_token_45 (by omega) (fun x9018 hx9018 => ?_)
          refine ex_pfi oq_X12_token_46 Th (k := 111) (d := 12) rfl rfl rfl (by omega) (by omega) (fun h9019 Th9019 wh9019 => ?_)
          have Fh9019 : cw_Fr cw_Ds cw_sh kk_X12_token.2.2.2.2.2.1 h0 h9019 := cw_Fr_tr Fh (cw_Fr_wrf wh9019 (k := 111) (d := 12) rfl rfl (by decide +kernel))
          have eh9019_7 : ri_at h9019 111 7 = x9018.toInt := ri_self wh9019
          have eh9019_6 : ri_at h9019 111 6 = ri_at h 111 6 := ri_ne wh9019 (by decide)
          have eh9019_8 : ri_at h9019 111 8 = ri_at h 111 8 := ri_ne wh9019 (by decide)
          have eh9019_9 : ri_at h9019 111 9 = ri_at h 111 9 := ri_ne wh9019 (by decide)
          have eh9019_10 : ri_at h9019 111 10 = ri_at h 111 10 := ri_ne wh9019 (by decide)
          refine ex_go oq_X12_token_49 (t := 0) rfl rfl ?_
          exact ih h9019 Th9019 Fh9019 (by omega) (by omega) (by omega) ⟨by omega, by intro q; omega, by intro q; omega⟩ (by omega)
theorem sp_token {h0 : cv_H} (hX : cw_Xok X) (hpk : cw_Holds fk_all mt_all cw_Ds cw_sh G (cw_PP G) kk_X12_packed) (hT : cw_T G h0) (hP : cw_PP G h0) (hfin : ∀ h, cw_T G h → cw_Fr cw_Ds cw_sh kk_X12_token.2.2.2.2.2.1 h0 h → cw_PP G h → ri_at h 111 6 = ri_at h0 111 6 → ri_at h0 111 7 ≤ ri_at h 111 7 → (ri_at h 111 8 = 0 ∨ ri_at h0 111 7 < ri_at h 111 7) → Q (none, h)) : cw_X X 163 Q 0 (cv_ent 0 [cv_r 111]) [] h0 := by
  obtain ⟨_, _, rst, _, ust⟩ := fi_stop hT
  exact tk_0 (by omega) hX hpk hP hfin _ h0 hT cw_Fr_refl rfl hP.2.1.1 (Int.le_refl _) hP.2.1 (Nat.le_refl _)
end SPC
