/-! ===== methods walked by hand: the words ===== -/
def wa_ct (i : Nat) : Nat := ((pp_words.take i).filter (fun w => decide (w = 32))).length
theorem wa_ct1 : ∀ i, i < 177 → wa_ct (i + 1) = wa_ct i + (if pp_words.getD i 0 = 32 then 1 else 0) := by decide +kernel
theorem wa_ct2 : ∀ i, i < 177 → wa_ct i ≤ 33 := by decide +kernel
theorem wa_last : pp_words.getD 176 0 = 32 := by decide +kernel
section SPB
variable {G : Int} {X : cv_X} {h : cv_H} {a b : Int32} {Q : cv_O → Prop}
theorem oq_X12_wordAt_0 : cw_ho 160 0 (.iconst 0) 1 0 0 0 := rfl
theorem oq_X12_wordAt_1 : cw_ho 160 1 (.istore_n 3) 1 0 0 0 := rfl
theorem oq_X12_wordAt_2 : cw_ho 160 2 (.iconst 0) 1 0 0 0 := rfl
theorem oq_X12_wordAt_3 : cw_ho 160 3 (.istore 4) 2 0 0 0 := rfl
theorem oq_X12_wordAt_5 : cw_ho 160 5 (.iload 4) 2 0 0 0 := rfl
theorem oq_X12_wordAt_7 : cw_ho 160 7 (.aload_n 0) 1 0 0 0 := rfl
theorem oq_X12_wordAt_8 : cw_ho 160 8 (.getfield 13) 3 12 3 4 := rfl
theorem oq_X12_wordAt_11 : cw_ho 160 11 (.arraylength) 1 0 0 0 := rfl
theorem oq_X12_wordAt_12 : cw_ho 160 12 (.if_icmp .ge 114) 3 0 0 0 := rfl
theorem oq_X12_wordAt_15 : cw_ho 160 15 (.iconst 0) 1 0 0 0 := rfl
theorem oq_X12_wordAt_16 : cw_ho 160 16 (.istore 5) 2 0 0 0 := rfl
theorem oq_X12_wordAt_18 : cw_ho 160 18 (.aload_n 0) 1 0 0 0 := rfl
theorem oq_X12_wordAt_19 : cw_ho 160 19 (.getfield 13) 3 12 3 4 := rfl
theorem oq_X12_wordAt_22 : cw_ho 160 22 (.iload 4) 2 0 0 0 := rfl
theorem oq_X12_wordAt_24 : cw_ho 160 24 (.iload 5) 2 0 0 0 := rfl
theorem oq_X12_wordAt_26 : cw_ho 160 26 (.iadd) 1 0 0 0 := rfl
theorem oq_X12_wordAt_27 : cw_ho 160 27 (.iaload) 1 0 0 0 := rfl
theorem oq_X12_wordAt_28 : cw_ho 160 28 (.bipush 32) 2 0 0 0 := rfl
theorem oq_X12_wordAt_30 : cw_ho 160 30 (.if_icmp .eq 9) 3 0 0 0 := rfl
theorem oq_X12_wordAt_33 : cw_ho 160 33 (.iinc 5 1) 3 0 0 0 := rfl
theorem oq_X12_wordAt_36 : cw_ho 160 36 (.goto (-18)) 3 0 0 0 := rfl
theorem oq_X12_wordAt_39 : cw_ho 160 39 (.iload 5) 2 0 0 0 := rfl
theorem oq_X12_wordAt_41 : cw_ho 160 41 (.iload_n 2) 1 0 0 0 := rfl
theorem oq_X12_wordAt_42 : cw_ho 160 42 (.iload_n 1) 1 0 0 0 := rfl
theorem oq_X12_wordAt_43 : cw_ho 160 43 (.isub) 1 0 0 0 := rfl
theorem oq_X12_wordAt_44 : cw_ho 160 44 (.if_icmp .ne 7) 3 0 0 0 := rfl
theorem oq_X12_wordAt_47 : cw_ho 160 47 (.iconst 1) 1 0 0 0 := rfl
theorem oq_X12_wordAt_48 : cw_ho 160 48 (.goto 4) 3 0 0 0 := rfl
theorem oq_X12_wordAt_51 : cw_ho 160 51 (.iconst 0) 1 0 0 0 := rfl
theorem oq_X12_wordAt_52 : cw_ho 160 52 (.istore 6) 2 0 0 0 := rfl
theorem oq_X12_wordAt_54 : cw_ho 160 54 (.iconst 0) 1 0 0 0 := rfl
theorem oq_X12_wordAt_55 : cw_ho 160 55 (.istore 7) 2 0 0 0 := rfl
theorem oq_X12_wordAt_57 : cw_ho 160 57 (.iload 7) 2 0 0 0 := rfl
theorem oq_X12_wordAt_59 : cw_ho 160 59 (.iload 5) 2 0 0 0 := rfl
theorem oq_X12_wordAt_61 : cw_ho 160 61 (.if_icmp .ge 43) 3 0 0 0 := rfl
theorem oq_X12_wordAt_64 : cw_ho 160 64 (.iload 6) 2 0 0 0 := rfl
theorem oq_X12_wordAt_66 : cw_ho 160 66 (.ifCond .eq 38) 3 0 0 0 := rfl
theorem oq_X12_wordAt_69 : cw_ho 160 69 (.aload_n 0) 1 0 0 0 := rfl
theorem oq_X12_wordAt_70 : cw_ho 160 70 (.getfield 13) 3 12 3 4 := rfl
theorem oq_X12_wordAt_73 : cw_ho 160 73 (.iload 4) 2 0 0 0 := rfl
theorem oq_X12_wordAt_75 : cw_ho 160 75 (.iload 7) 2 0 0 0 := rfl
theorem oq_X12_wordAt_77 : cw_ho 160 77 (.iadd) 1 0 0 0 := rfl
theorem oq_X12_wordAt_78 : cw_ho 160 78 (.iaload) 1 0 0 0 := rfl
theorem oq_X12_wordAt_79 : cw_ho 160 79 (.aload_n 0) 1 0 0 0 := rfl
theorem oq_X12_wordAt_80 : cw_ho 160 80 (.getfield 7) 3 12 0 4 := rfl
theorem oq_X12_wordAt_83 : cw_ho 160 83 (.iload_n 1) 1 0 0 0 := rfl
theorem oq_X12_wordAt_84 : cw_ho 160 84 (.iload 7) 2 0 0 0 := rfl
theorem oq_X12_wordAt_86 : cw_ho 160 86 (.iadd) 1 0 0 0 := rfl
theorem oq_X12_wordAt_87 : cw_ho 160 87 (.iaload) 1 0 0 0 := rfl
theorem oq_X12_wordAt_88 : cw_ho 160 88 (.if_icmp .ne 7) 3 0 0 0 := rfl
theorem oq_X12_wordAt_91 : cw_ho 160 91 (.iconst 1) 1 0 0 0 := rfl
theorem oq_X12_wordAt_92 : cw_ho 160 92 (.goto 4) 3 0 0 0 := rfl
theorem oq_X12_wordAt_95 : cw_ho 160 95 (.iconst 0) 1 0 0 0 := rfl
theorem oq_X12_wordAt_96 : cw_ho 160 96 (.istore 6) 2 0 0 0 := rfl
theorem oq_X12_wordAt_98 : cw_ho 160 98 (.iinc 7 1) 3 0 0 0 := rfl
theorem oq_X12_wordAt_101 : cw_ho 160 101 (.goto (-44)) 3 0 0 0 := rfl
theorem oq_X12_wordAt_104 : cw_ho 160 104 (.iload 6) 2 0 0 0 := rfl
theorem oq_X12_wordAt_106 : cw_ho 160 106 (.ifCond .eq 5) 3 0 0 0 := rfl
theorem oq_X12_wordAt_109 : cw_ho 160 109 (.iload_n 3) 1 0 0 0 := rfl
theorem oq_X12_wordAt_110 : cw_ho 160 110 (.ireturn) 1 0 0 0 := rfl
theorem oq_X12_wordAt_111 : cw_ho 160 111 (.iload 4) 2 0 0 0 := rfl
theorem oq_X12_wordAt_113 : cw_ho 160 113 (.iload 5) 2 0 0 0 := rfl
theorem oq_X12_wordAt_115 : cw_ho 160 115 (.iconst 1) 1 0 0 0 := rfl
theorem oq_X12_wordAt_116 : cw_ho 160 116 (.iadd) 1 0 0 0 := rfl
theorem oq_X12_wordAt_117 : cw_ho 160 117 (.iadd) 1 0 0 0 := rfl
theorem oq_X12_wordAt_118 : cw_ho 160 118 (.istore 4) 2 0 0 0 := rfl
theorem oq_X12_wordAt_120 : cw_ho 160 120 (.iinc 3 1) 3 0 0 0 := rfl
theorem oq_X12_wordAt_123 : cw_ho 160 123 (.goto (-118)) 3 0 0 0 := rfl
theorem oq_X12_wordAt_126 : cw_ho 160 126 (.iconst (-1)) 1 0 0 0 := rfl
theorem oq_X12_wordAt_127 : cw_ho 160 127 (.ireturn) 1 0 0 0 := rfl
theorem wa_57 (hT : cw_T G h) (hP : cw_PP G h) (a0 : 0 ≤ a.toInt) (a1 : a.toInt ≤ 900) (b0 : 0 ≤ b.toInt) (b1 : b.toInt ≤ 900) (k f n : Int32) (f0 : 0 ≤ f.toInt) (n0 : 0 ≤ n.toInt) (fn : f.toInt + n.toInt ≤ 176)
    (hend : ∀ (sm : Int32) (L : cv_L), cv_get L 0 = some (cv_r 111) → cv_get L 1 = some (cv_i a) → cv_get L 2 = some (cv_i b) → cv_get L 3 = some (cv_i k) → cv_get L 4 = some (cv_i f) → cv_get L 5 = some (cv_i n) → cv_get L 6 = some (cv_i sm) → 0 ≤ sm.toInt → sm.toInt ≤ 1 → cw_X X 160 Q 104 L [] h) : ∀ (N : Nat) (sm i : Int32) (L : cv_L), cv_get L 0 = some (cv_r 111) → cv_get L 1 = some (cv_i a) → cv_get L 2 = some (cv_i b) → cv_get L 3 = some (cv_i k) → cv_get L 4 = some (cv_i f) → cv_get L 5 = some (cv_i n) → cv_get L 6 = some (cv_i sm) → cv_get L 7 = some (cv_i i) → 0 ≤ i.toInt ∧ i.toInt ≤ n.toInt → 0 ≤ sm.toInt → sm.toInt ≤ 1 → (sm.toInt = 0 ∨ n.toInt = b.toInt - a.toInt) → (n.toInt - i.toInt).toNat ≤ N → cw_X X 160 Q 57 L [] h := by
  intro N
  induction N with
  | zero =>
    intro sm i L q0 q1 q2 q3 q4 q5 q6 q7 hi hs0 hs1 hs hN
    refine ex_ilw oq_X12_wordAt_57 q7 ?_
    refine ex_ilw oq_X12_wordAt_59 q5 ?_
    refine ex_if oq_X12_wordAt_61 (t := 104) rfl rfl (fun (c1 : n.toInt ≤ i.toInt) => ?_) (fun (c1 : ¬ (n.toInt ≤ i.toInt)) => ?_)
    · exact hend sm L q0 q1 q2 q3 q4 q5 q6 (by omega) (by omega)
    · refine ex_ilw oq_X12_wordAt_64 q6 ?_
      refine ex_if0 oq_X12_wordAt_66 (t := 104) rfl rfl (fun (c2 : sm.toInt = 0) => ?_) (fun (c2 : ¬ (sm.toInt = 0)) => ?_)
      · exact hend sm L q0 q1 q2 q3 q4 q5 q6 (by omega) (by omega)
      · refine ex_al oq_X12_wordAt_69 q0 ?_
        refine ex_gf oq_X12_wordAt_70 hT (k := 111) (d := 12) rfl rfl (fr_words hT) ?_
        refine ex_ilw oq_X12_wordAt_73 q4 ?_
        refine ex_ilw oq_X12_wordAt_75 q7 ?_
        refine ex_add oq_X12_wordAt_77 (by omega) (fun x3 hx3 => ?_)
        refine ex_ia1 oq_X12_wordAt_78 hT (k := 113) (d := 52) (j := (f.toInt + i.toInt).toNat) rfl rfl (by omega) (by omega) (fun x4 hx4 lx4 ux4 => ?_)
        refine ex_al oq_X12_wordAt_79 q0 ?_
        refine ex_gf oq_X12_wordAt_80 hT (k := 111) (d := 12) rfl rfl (fr_tape hT) ?_
        refine ex_il oq_X12_wordAt_83 q1 ?_
        refine ex_ilw oq_X12_wordAt_84 q7 ?_
        refine ex_add oq_X12_wordAt_86 (by omega) (fun x5 hx5 => ?_)
        refine ex_ia1 oq_X12_wordAt_87 hT (k := 112) (d := 51) (j := (a.toInt + i.toInt).toNat) rfl rfl (by omega) (by omega) (fun x6 hx6 lx6 ux6 => ?_)
        refine ex_if oq_X12_wordAt_88 (t := 95) rfl rfl (fun (c7 : ¬ x4.toInt = x6.toInt) => ?_) (fun (c7 : ¬ (¬ x4.toInt = x6.toInt)) => ?_)
        · refine ex_ic oq_X12_wordAt_95 (m := 0) (by decide) (fun x8 hx8 => ?_)
          refine ex_iswA oq_X12_wordAt_96 (fun L9 gL9_6 kL9 => ?_)
          have gL9_0 : cv_get L9 0 = some (cv_r 111) := kL9 0 _ (by decide) (fun _ => rfl) q0
          have gL9_1 : cv_get L9 1 = some (cv_i a) := kL9 1 _ (by decide) (fun _ => rfl) q1
          have gL9_2 : cv_get L9 2 = some (cv_i b) := kL9 2 _ (by decide) (fun _ => rfl) q2
          have gL9_3 : cv_get L9 3 = some (cv_i k) := kL9 3 _ (by decide) (fun _ => rfl) q3
          have gL9_4 : cv_get L9 4 = some (cv_i f) := kL9 4 _ (by decide) (fun _ => rfl) q4
          have gL9_5 : cv_get L9 5 = some (cv_i n) := kL9 5 _ (by decide) (fun _ => rfl) q5
          have gL9_7 : cv_get L9 7 = some (cv_i i) := kL9 7 _ (by decide) (fun _ => rfl) q7
          refine ex_incA oq_X12_wordAt_98 (v := i) (m := 1) gL9_7 (by decide) (by omega) (fun L11 x10 hx10 gL11_7 kL11 => ?_)
          have gL11_6 : cv_get L11 6 = some (cv_i x8) := kL11 6 _ (by decide) (fun _ => rfl) gL9_6
          have gL11_0 : cv_get L11 0 = some (cv_r 111) := kL11 0 _ (by decide) (fun _ => rfl) gL9_0
          have gL11_1 : cv_get L11 1 = some (cv_i a) := kL11 1 _ (by decide) (fun _ => rfl) gL9_1
          have gL11_2 : cv_get L11 2 = some (cv_i b) := kL11 2 _ (by decide) (fun _ => rfl) gL9_2
          have gL11_3 : cv_get L11 3 = some (cv_i k) := kL11 3 _ (by decide) (fun _ => rfl) gL9_3
          have gL11_4 : cv_get L11 4 = some (cv_i f) := kL11 4 _ (by decide) (fun _ => rfl) gL9_4
          have gL11_5 : cv_get L11 5 = some (cv_i n) := kL11 5 _ (by decide) (fun _ => rfl) gL9_5
          refine ex_go oq_X12_wordAt_101 (t := 57) rfl rfl ?_
          exfalso; omega -- x8 x10 L11 gL11_0 gL11_1 gL11_2 gL11_3 gL11_4 gL11_5 gL11_6 gL11_7 (by omega) (by omega) (by omega) (by omega) (by omega)
        · refine ex_ic oq_X12_wordAt_91 (m := 1) (by decide) (fun x12 hx12 => ?_)
          refine ex_go oq_X12_wordAt_92 (t := 96) rfl rfl ?_
          refine ex_iswA oq_X12_wordAt_96 (fun L13 gL13_6 kL13 => ?_)
          have gL13_0 : cv_get L13 0 = some (cv_r 111) := kL13 0 _ (by decide) (fun _ => rfl) q0
          have gL13_1 : cv_get L13 1 = some (cv_i a) := kL13 1 _ (by decide) (fun _ => rfl) q1
          have gL13_2 : cv_get L13 2 = some (cv_i b) := kL13 2 _ (by decide) (fun _ => rfl) q2
          have gL13_3 : cv_get L13 3 = some (cv_i k) := kL13 3 _ (by decide) (fun _ => rfl) q3
          have gL13_4 : cv_get L13 4 = some (cv_i f) := kL13 4 _ (by decide) (fun _ => rfl) q4
          have gL13_5 : cv_get L13 5 = some (cv_i n) := kL13 5 _ (by decide) (fun _ => rfl) q5
          have gL13_7 : cv_get L13 7 = some (cv_i i) := kL13 7 _ (by decide) (fun _ => rfl) q7
          refine ex_incA oq_X12_wordAt_98 (v := i) (m := 1) gL13_7 (by decide) (by omega) (fun L15 x14 hx14 gL15_7 kL15 => ?_)
          have gL15_6 : cv_get L15 6 = some (cv_i x12) := kL15 6 _ (by decide) (fun _ => rfl) gL13_6
          have gL15_0 : cv_get L15 0 = some (cv_r 111) := kL15 0 _ (by decide) (fun _ => rfl) gL13_0
          have gL15_1 : cv_get L15 1 = some (cv_i a) := kL15 1 _ (by decide) (fun _ => rfl) gL13_1
          have gL15_2 : cv_get L15 2 = some (cv_i b) := kL15 2 _ (by decide) (fun _ => rfl) gL13_2
          have gL15_3 : cv_get L15 3 = some (cv_i k) := kL15 3 _ (by decide) (fun _ => rfl) gL13_3
          have gL15_4 : cv_get L15 4 = some (cv_i f) := kL15 4 _ (by decide) (fun _ => rfl) gL13_4
          have gL15_5 : cv_get L15 5 = some (cv_i n) := kL15 5 _ (by decide) (fun _ => rfl) gL13_5
          refine ex_go oq_X12_wordAt_101 (t := 57) rfl rfl ?_
          exfalso; omega -- x12 x14 L15 gL15_0 gL15_1 gL15_2 gL15_3 gL15_4 gL15_5 gL15_6 gL15_7 (by omega) (by omega) (by omega) (by omega) (by omega)
  | succ N ih =>
    intro sm i L q0 q1 q2 q3 q4 q5 q6 q7 hi hs0 hs1 hs hN
    refine ex_ilw oq_X12_wordAt_57 q7 ?_
    refine ex_ilw oq_X12_wordAt_59 q5 ?_
    refine ex_if oq_X12_wordAt_61 (t := 104) rfl rfl (fun (c1 : n.toInt ≤ i.toInt) => ?_) (fun (c1 : ¬ (n.toInt ≤ i.toInt)) => ?_)
    · exact hend sm L q0 q1 q2 q3 q4 q5 q6 (by omega) (by omega)
    · refine ex_ilw oq_X12_wordAt_64 q6 ?_
      refine ex_if0 oq_X12_wordAt_66 (t := 104) rfl rfl (fun (c2 : sm.toInt = 0) => ?_) (fun (c2 : ¬ (sm.toInt = 0)) => ?_)
      · exact hend sm L q0 q1 q2 q3 q4 q5 q6 (by omega) (by omega)
      · refine ex_al oq_X12_wordAt_69 q0 ?_
        refine ex_gf oq_X12_wordAt_70 hT (k := 111) (d := 12) rfl rfl (fr_words hT) ?_
        refine ex_ilw oq_X12_wordAt_73 q4 ?_
        refine ex_ilw oq_X12_wordAt_75 q7 ?_
        refine ex_add oq_X12_wordAt_77 (by omega) (fun x3 hx3 => ?_)
        refine ex_ia1 oq_X12_wordAt_78 hT (k := 113) (d := 52) (j := (f.toInt + i.toInt).toNat) rfl rfl (by omega) (by omega) (fun x4 hx4 lx4 ux4 => ?_)
        refine ex_al oq_X12_wordAt_79 q0 ?_
        refine ex_gf oq_X12_wordAt_80 hT (k := 111) (d := 12) rfl rfl (fr_tape hT) ?_
        refine ex_il oq_X12_wordAt_83 q1 ?_
        refine ex_ilw oq_X12_wordAt_84 q7 ?_
        refine ex_add oq_X12_wordAt_86 (by omega) (fun x5 hx5 => ?_)
        refine ex_ia1 oq_X12_wordAt_87 hT (k := 112) (d := 51) (j := (a.toInt + i.toInt).toNat) rfl rfl (by omega) (by omega) (fun x6 hx6 lx6 ux6 => ?_)
        refine ex_if oq_X12_wordAt_88 (t := 95) rfl rfl (fun (c7 : ¬ x4.toInt = x6.toInt) => ?_) (fun (c7 : ¬ (¬ x4.toInt = x6.toInt)) => ?_)
        · refine ex_ic oq_X12_wordAt_95 (m := 0) (by decide) (fun x8 hx8 => ?_)
          refine ex_iswA oq_X12_wordAt_96 (fun L9 gL9_6 kL9 => ?_)
          have gL9_0 : cv_get L9 0 = some (cv_r 111) := kL9 0 _ (by decide) (fun _ => rfl) q0
          have gL9_1 : cv_get L9 1 = some (cv_i a) := kL9 1 _ (by decide) (fun _ => rfl) q1
          have gL9_2 : cv_get L9 2 = some (cv_i b) := kL9 2 _ (by decide) (fun _ => rfl) q2
          have gL9_3 : cv_get L9 3 = some (cv_i k) := kL9 3 _ (by decide) (fun _ => rfl) q3
          have gL9_4 : cv_get L9 4 = some (cv_i f) := kL9 4 _ (by decide) (fun _ => rfl) q4
          have gL9_5 : cv_get L9 5 = some (cv_i n) := kL9 5 _ (by decide) (fun _ => rfl) q5
          have gL9_7 : cv_get L9 7 = some (cv_i i) := kL9 7 _ (by decide) (fun _ => rfl) q7
          refine ex_incA oq_X12_wordAt_98 (v := i) (m := 1) gL9_7 (by decide) (by omega) (fun L11 x10 hx10 gL11_7 kL11 => ?_)
          have gL11_6 : cv_get L11 6 = some (cv_i x8) := kL11 6 _ (by decide) (fun _ => rfl) gL9_6
          have gL11_0 : cv_get L11 0 = some (cv_r 111) := kL11 0 _ (by decide) (fun _ => rfl) gL9_0
          have gL11_1 : cv_get L11 1 = some (cv_i a) := kL11 1 _ (by decide) (fun _ => rfl) gL9_1
          have gL11_2 : cv_get L11 2 = some (cv_i b) := kL11 2 _ (by decide) (fun _ => rfl) gL9_2
          have gL11_3 : cv_get L11 3 = some (cv_i k) := kL11 3 _ (by decide) (fun _ => rfl) gL9_3
          have gL11_4 : cv_get L11 4 = some (cv_i f) := kL11 4 _ (by decide) (fun _ => rfl) gL9_4
          have gL11_5 : cv_get L11 5 = some (cv_i n) := kL11 5 _ (by decide) (fun _ => rfl) gL9_5
          refine ex_go oq_X12_wordAt_101 (t := 57) rfl rfl ?_
          exact ih x8 x10 L11 gL11_0 gL11_1 gL11_2 gL11_3 gL11_4 gL11_5 gL11_6 gL11_7 (by omega) (by omega) (by omega) (by omega) (by omega)
        · refine ex_ic oq_X12_wordAt_91 (m := 1) (by decide) (fun x12 hx12 => ?_)
          refine ex_go oq_X12_wordAt_92 (t := 96) rfl rfl ?_
          refine ex_iswA oq_X12_wordAt_96 (fun L13 gL13_6 kL13 => ?_)
          have gL13_0 : cv_get L13 0 = some (cv_r 111) := kL13 0 _ (by decide) (fun _ => rfl) q0
          have gL13_1 : cv_get L13 1 = some (cv_i a) := kL13 1 _ (by decide) (fun _ => rfl) q1
          have gL13_2 : cv_get L13 2 = some (cv_i b) := kL13 2 _ (by decide) (fun _ => rfl) q2
          have gL13_3 : cv_get L13 3 = some (cv_i k) := kL13 3 _ (by decide) (fun _ => rfl) q3
          have gL13_4 : cv_get L13 4 = some (cv_i f) := kL13 4 _ (by decide) (fun _ => rfl) q4
          have gL13_5 : cv_get L13 5 = some (cv_i n) := kL13 5 _ (by decide) (fun _ => rfl) q5
          have gL13_7 : cv_get L13 7 = some (cv_i i) := kL13 7 _ (by decide) (fun _ => rfl) q7
          refine ex_incA oq_X12_wordAt_98 (v := i) (m := 1) gL13_7 (by decide) (by omega) (fun L15 x14 hx14 gL15_7 kL15 => ?_)
          have gL15_6 : cv_get L15 6 = some (cv_i x12) := kL15 6 _ (by decide) (fun _ => rfl) gL13_6
          have gL15_0 : cv_get L15 0 = some (cv_r 111) := kL15 0 _ (by decide) (fun _ => rfl) gL13_0
          have gL15_1 : cv_get L15 1 = some (cv_i a) := kL15 1 _ (by decide) (fun _ => rfl) gL13_1
          have gL15_2 : cv_get L15 2 = some (cv_i b) := kL15 2 _ (by decide) (fun _ => rfl) gL13_2
          have gL15_3 : cv_get L15 3 = some (cv_i k) := kL15 3 _ (by decide) (fun _ => rfl) gL13_3
          have gL15_4 : cv_get L15 4 = some (cv_i f) := kL15 4 _ (by decide) (fun _ => rfl) gL13_4
          have gL15_5 : cv_get L15 5 = some (cv_i n) := kL15 5 _ (by decide) (fun _ => rfl) gL13_5
          refine ex_go oq_X12_wordAt_101 (t := 57) rfl rfl ?_
          exact ih x12 x14 L15 gL15_0 gL15_1 gL15_2 gL15_3 gL15_4 gL15_5 gL15_6 gL15_7 (by omega) (by omega) (by omega) (by omega) (by omega)
theorem wa_18 (hT : cw_T G h) (hP : cw_PP G h) (a0 : 0 ≤ a.toInt) (a1 : a.toInt ≤ 900) (b0 : 0 ≤ b.toInt) (b1 : b.toInt ≤ 900) (k f : Int32) (f0 : 0 ≤ f.toInt) (f1 : f.toInt ≤ 176) (hk0 : k.toInt = wa_ct f.toInt.toNat)
    (hend : ∀ (n : Int32) (L : cv_L), cv_get L 0 = some (cv_r 111) → cv_get L 1 = some (cv_i a) → cv_get L 2 = some (cv_i b) → cv_get L 3 = some (cv_i k) → cv_get L 4 = some (cv_i f) → cv_get L 5 = some (cv_i n) → 0 ≤ n.toInt → f.toInt + n.toInt ≤ 176 → k.toInt = wa_ct (f.toInt + n.toInt).toNat → pp_words.getD (f.toInt + n.toInt).toNat 0 = 32 → cw_X X 160 Q 39 L [] h) : ∀ (N : Nat) (n : Int32) (L : cv_L), cv_get L 0 = some (cv_r 111) → cv_get L 1 = some (cv_i a) → cv_get L 2 = some (cv_i b) → cv_get L 3 = some (cv_i k) → cv_get L 4 = some (cv_i f) → cv_get L 5 = some (cv_i n) → 0 ≤ n.toInt → f.toInt + n.toInt ≤ 176 → (176 - f.toInt - n.toInt).toNat ≤ N → k.toInt = wa_ct (f.toInt + n.toInt).toNat → cw_X X 160 Q 18 L [] h := by
  intro N
  induction N with
  | zero =>
    intro n L q0 q1 q2 q3 q4 q5 hn0 hn hN hk
    refine ex_al oq_X12_wordAt_18 q0 ?_
    refine ex_gf oq_X12_wordAt_19 hT (k := 111) (d := 12) rfl rfl (fr_words hT) ?_
    refine ex_ilw oq_X12_wordAt_22 q4 ?_
    refine ex_ilw oq_X12_wordAt_24 q5 ?_
    refine ex_add oq_X12_wordAt_26 (by omega) (fun x501 hx501 => ?_)
    refine ex_ia1 oq_X12_wordAt_27 hT (k := 113) (d := 52) (j := (f.toInt + n.toInt).toNat) rfl rfl (by omega) (by omega) (fun x502 hx502 lx502 ux502 => ?_)
    refine ex_bi oq_X12_wordAt_28 (m := 32) (by decide) (fun x503 hx503 => ?_)
    refine ex_if oq_X12_wordAt_30 (t := 39) rfl rfl (fun (c504 : x502.toInt = x503.toInt) => ?_) (fun (c504 : ¬ (x502.toInt = x503.toInt)) => ?_)
    · have hc2 := hP.1 (f.toInt + n.toInt).toNat (by omega)
      exact hend n L q0 q1 q2 q3 q4 q5 hn0 hn hk (by omega)
    · refine ex_incA oq_X12_wordAt_33 (v := n) (m := 1) q5 (by decide) (by omega) (fun L506 x505 hx505 gL506_5 kL506 => ?_)
      have gL506_0 : cv_get L506 0 = some (cv_r 111) := kL506 0 _ (by decide) (fun _ => rfl) q0
      have gL506_1 : cv_get L506 1 = some (cv_i a) := kL506 1 _ (by decide) (fun _ => rfl) q1
      have gL506_2 : cv_get L506 2 = some (cv_i b) := kL506 2 _ (by decide) (fun _ => rfl) q2
      have gL506_3 : cv_get L506 3 = some (cv_i k) := kL506 3 _ (by decide) (fun _ => rfl) q3
      have gL506_4 : cv_get L506 4 = some (cv_i f) := kL506 4 _ (by decide) (fun _ => rfl) q4
      refine ex_go oq_X12_wordAt_36 (t := 18) rfl rfl ?_
      have hc1 := wa_ct1 (f.toInt + n.toInt).toNat (by omega)
      have hc2 := hP.1 (f.toInt + n.toInt).toNat (by omega)
      have hc3 := wa_last
      have hne : ¬ pp_words.getD (f.toInt + n.toInt).toNat 0 = 32 := by omega
      rw [if_neg hne] at hc1
      have hn176 : ¬ (f.toInt + n.toInt).toNat = 176 := fun q => hne (by rw [q]; exact hc3)
      have e1 : (f.toInt + x505.toInt).toNat = (f.toInt + n.toInt).toNat + 1 := by omega
      exfalso; omega -- x505 L506 gL506_0 gL506_1 gL506_2 gL506_3 gL506_4 gL506_5 (by omega) (by omega) (by omega) (by rw [e1]; omega)
  | succ N ih =>
    intro n L q0 q1 q2 q3 q4 q5 hn0 hn hN hk
    refine ex_al oq_X12_wordAt_18 q0 ?_
    refine ex_gf oq_X12_wordAt_19 hT (k := 111) (d := 12) rfl rfl (fr_words hT) ?_
    refine ex_ilw oq_X12_wordAt_22 q4 ?_
    refine ex_ilw oq_X12_wordAt_24 q5 ?_
    refine ex_add oq_X12_wordAt_26 (by omega) (fun x501 hx501 => ?_)
    refine ex_ia1 oq_X12_wordAt_27 hT (k := 113) (d := 52) (j := (f.toInt + n.toInt).toNat) rfl rfl (by omega) (by omega) (fun x502 hx502 lx502 ux502 => ?_)
    refine ex_bi oq_X12_wordAt_28 (m := 32) (by decide) (fun x503 hx503 => ?_)
    refine ex_if oq_X12_wordAt_30 (t := 39) rfl rfl (fun (c504 : x502.toInt = x503.toInt) => ?_) (fun (c504 : ¬ (x502.toInt = x503.toInt)) => ?_)
    · have hc2 := hP.1 (f.toInt + n.toInt).toNat (by omega)
      exact hend n L q0 q1 q2 q3 q4 q5 hn0 hn hk (by omega)
    · refine ex_incA oq_X12_wordAt_33 (v := n) (m := 1) q5 (by decide) (by omega) (fun L506 x505 hx505 gL506_5 kL506 => ?_)
      have gL506_0 : cv_get L506 0 = some (cv_r 111) := kL506 0 _ (by decide) (fun _ => rfl) q0
      have gL506_1 : cv_get L506 1 = some (cv_i a) := kL506 1 _ (by decide) (fun _ => rfl) q1
      have gL506_2 : cv_get L506 2 = some (cv_i b) := kL506 2 _ (by decide) (fun _ => rfl) q2
      have gL506_3 : cv_get L506 3 = some (cv_i k) := kL506 3 _ (by decide) (fun _ => rfl) q3
      have gL506_4 : cv_get L506 4 = some (cv_i f) := kL506 4 _ (by decide) (fun _ => rfl) q4
      refine ex_go oq_X12_wordAt_36 (t := 18) rfl rfl ?_
      have hc1 := wa_ct1 (f.toInt + n.toInt).toNat (by omega)
      have hc2 := hP.1 (f.toInt + n.toInt).toNat (by omega)
      have hc3 := wa_last
      have hne : ¬ pp_words.getD (f.toInt + n.toInt).toNat 0 = 32 := by omega
      rw [if_neg hne] at hc1
      have hn176 : ¬ (f.toInt + n.toInt).toNat = 176 := fun q => hne (by rw [q]; exact hc3)
      have e1 : (f.toInt + x505.toInt).toNat = (f.toInt + n.toInt).toNat + 1 := by omega
      exact ih x505 L506 gL506_0 gL506_1 gL506_2 gL506_3 gL506_4 gL506_5 (by omega) (by omega) (by omega) (by rw [e1]; omega)
theorem wa_5 (hT : cw_T G h) (hP : cw_PP G h) (a0 : 0 ≤ a.toInt) (a1 : a.toInt ≤ 900) (b0 : 0 ≤ b.toInt) (b1 : b.toInt ≤ 900) (hret : ∀ x : Int32, -1 ≤ x.toInt → x.toInt ≤ 33 → Q (some (cv_i x), h)) : ∀ (N : Nat) (k f : Int32) (L : cv_L), cv_get L 0 = some (cv_r 111) → cv_get L 1 = some (cv_i a) → cv_get L 2 = some (cv_i b) → cv_get L 3 = some (cv_i k) → cv_get L 4 = some (cv_i f) → 0 ≤ f.toInt → f.toInt ≤ 177 → (177 - f.toInt).toNat ≤ N → k.toInt = wa_ct f.toInt.toNat → cw_X X 160 Q 5 L [] h := by
  intro N
  induction N with
  | zero =>
    intro k f L q0 q1 q2 q3 q4 f0 f1 hN hk
    have hk33 : f.toInt = 177 ∨ k.toInt ≤ 33 := by
      by_cases q : f.toInt = 177
      · exact .inl q
      · have := wa_ct2 f.toInt.toNat (by omega)
        omega
    refine ex_ilw oq_X12_wordAt_5 q4 ?_
    refine ex_al oq_X12_wordAt_7 q0 ?_
    refine ex_gf oq_X12_wordAt_8 hT (k := 111) (d := 12) rfl rfl (fr_words hT) ?_
    refine ex_len oq_X12_wordAt_11 hT (k := 113) (d := 52) rfl rfl (by decide) (fun x1001 hx1001 => ?_)
    refine ex_if oq_X12_wordAt_12 (t := 126) rfl rfl (fun (c1002 : x1001.toInt ≤ f.toInt) => ?_) (fun (c1002 : ¬ (x1001.toInt ≤ f.toInt)) => ?_)
    · refine ex_ic oq_X12_wordAt_126 (m := (-1)) (by decide) (fun x1003 hx1003 => ?_)
      have hc0 := wa_ct2 f.toInt.toNat
      exact ex_reti oq_X12_wordAt_127 rfl (hret x1003 (by omega) (by omega))
    · refine ex_ic oq_X12_wordAt_15 (m := 0) (by decide) (fun x1004 hx1004 => ?_)
      refine ex_iswA oq_X12_wordAt_16 (fun L1005 gL1005_5 kL1005 => ?_)
      have gL1005_0 : cv_get L1005 0 = some (cv_r 111) := kL1005 0 _ (by decide) (fun _ => rfl) q0
      have gL1005_1 : cv_get L1005 1 = some (cv_i a) := kL1005 1 _ (by decide) (fun _ => rfl) q1
      have gL1005_2 : cv_get L1005 2 = some (cv_i b) := kL1005 2 _ (by decide) (fun _ => rfl) q2
      have gL1005_3 : cv_get L1005 3 = some (cv_i k) := kL1005 3 _ (by decide) (fun _ => rfl) q3
      have gL1005_4 : cv_get L1005 4 = some (cv_i f) := kL1005 4 _ (by decide) (fun _ => rfl) q4
      have e18 : (f.toInt + x1004.toInt).toNat = f.toInt.toNat := by omega
      refine wa_18 hT hP a0 a1 b0 b1 k f (by omega) (by omega) hk ?_ _ x1004 L1005 gL1005_0 gL1005_1 gL1005_2 gL1005_3 gL1005_4 gL1005_5 (by omega) (by omega) (Nat.le_refl _) (by rw [e18]; exact hk)
      intro n L q0 q1 q2 q3 q4 q5 hn0 hn hkn hsp
      refine ex_ilw oq_X12_wordAt_39 q5 ?_
      refine ex_il oq_X12_wordAt_41 q2 ?_
      refine ex_il oq_X12_wordAt_42 q1 ?_
      refine ex_sub oq_X12_wordAt_43 (by omega) (fun x1006 hx1006 => ?_)
      refine ex_if oq_X12_wordAt_44 (t := 51) rfl rfl (fun (c1007 : ¬ n.toInt = x1006.toInt) => ?_) (fun (c1007 : ¬ (¬ n.toInt = x1006.toInt)) => ?_)
      · refine ex_ic oq_X12_wordAt_51 (m := 0) (by decide) (fun x1008 hx1008 => ?_)
        refine ex_iswA oq_X12_wordAt_52 (fun L1009 gL1009_6 kL1009 => ?_)
        have gL1009_0 : cv_get L1009 0 = some (cv_r 111) := kL1009 0 _ (by decide) (fun _ => rfl) q0
        have gL1009_1 : cv_get L1009 1 = some (cv_i a) := kL1009 1 _ (by decide) (fun _ => rfl) q1
        have gL1009_2 : cv_get L1009 2 = some (cv_i b) := kL1009 2 _ (by decide) (fun _ => rfl) q2
        have gL1009_3 : cv_get L1009 3 = some (cv_i k) := kL1009 3 _ (by decide) (fun _ => rfl) q3
        have gL1009_4 : cv_get L1009 4 = some (cv_i f) := kL1009 4 _ (by decide) (fun _ => rfl) q4
        have gL1009_5 : cv_get L1009 5 = some (cv_i n) := kL1009 5 _ (by decide) (fun _ => rfl) q5
        refine ex_ic oq_X12_wordAt_54 (m := 0) (by decide) (fun x1010 hx1010 => ?_)
        refine ex_iswA oq_X12_wordAt_55 (fun L1011 gL1011_7 kL1011 => ?_)
        have gL1011_6 : cv_get L1011 6 = some (cv_i x1008) := kL1011 6 _ (by decide) (fun _ => rfl) gL1009_6
        have gL1011_0 : cv_get L1011 0 = some (cv_r 111) := kL1011 0 _ (by decide) (fun _ => rfl) gL1009_0
        have gL1011_1 : cv_get L1011 1 = some (cv_i a) := kL1011 1 _ (by decide) (fun _ => rfl) gL1009_1
        have gL1011_2 : cv_get L1011 2 = some (cv_i b) := kL1011 2 _ (by decide) (fun _ => rfl) gL1009_2
        have gL1011_3 : cv_get L1011 3 = some (cv_i k) := kL1011 3 _ (by decide) (fun _ => rfl) gL1009_3
        have gL1011_4 : cv_get L1011 4 = some (cv_i f) := kL1011 4 _ (by decide) (fun _ => rfl) gL1009_4
        have gL1011_5 : cv_get L1011 5 = some (cv_i n) := kL1011 5 _ (by decide) (fun _ => rfl) gL1009_5
        refine wa_57 hT hP a0 a1 b0 b1 k f n (by omega) (by omega) (by omega) ?_ _ x1008 x1010 L1011 gL1011_0 gL1011_1 gL1011_2 gL1011_3 gL1011_4 gL1011_5 gL1011_6 gL1011_7 (by omega) (by omega) (by omega) (by omega) (Nat.le_refl _)
        intro sm L q0 q1 q2 q3 q4 q5 q6 hs0 hs1
        refine ex_ilw oq_X12_wordAt_104 q6 ?_
        refine ex_if0 oq_X12_wordAt_106 (t := 111) rfl rfl (fun (c1012 : sm.toInt = 0) => ?_) (fun (c1012 : ¬ (sm.toInt = 0)) => ?_)
        · refine ex_ilw oq_X12_wordAt_111 q4 ?_
          refine ex_ilw oq_X12_wordAt_113 q5 ?_
          refine ex_ic oq_X12_wordAt_115 (m := 1) (by decide) (fun x1013 hx1013 => ?_)
          refine ex_add oq_X12_wordAt_116 (by omega) (fun x1014 hx1014 => ?_)
          refine ex_add oq_X12_wordAt_117 (by omega) (fun x1015 hx1015 => ?_)
          refine ex_iswA oq_X12_wordAt_118 (fun L1016 gL1016_4 kL1016 => ?_)
          have gL1016_0 : cv_get L1016 0 = some (cv_r 111) := kL1016 0 _ (by decide) (fun _ => rfl) q0
          have gL1016_1 : cv_get L1016 1 = some (cv_i a) := kL1016 1 _ (by decide) (fun _ => rfl) q1
          have gL1016_2 : cv_get L1016 2 = some (cv_i b) := kL1016 2 _ (by decide) (fun _ => rfl) q2
          have gL1016_3 : cv_get L1016 3 = some (cv_i k) := kL1016 3 _ (by decide) (fun _ => rfl) q3
          have gL1016_5 : cv_get L1016 5 = some (cv_i n) := kL1016 5 _ (by decide) (fun _ => rfl) q5
          have gL1016_6 : cv_get L1016 6 = some (cv_i sm) := kL1016 6 _ (by decide) (fun _ => rfl) q6
          refine ex_incA oq_X12_wordAt_120 (v := k) (m := 1) gL1016_3 (by decide) (by omega) (fun L1018 x1017 hx1017 gL1018_3 kL1018 => ?_)
          have gL1018_4 : cv_get L1018 4 = some (cv_i x1015) := kL1018 4 _ (by decide) (fun _ => rfl) gL1016_4
          have gL1018_0 : cv_get L1018 0 = some (cv_r 111) := kL1018 0 _ (by decide) (fun _ => rfl) gL1016_0
          have gL1018_1 : cv_get L1018 1 = some (cv_i a) := kL1018 1 _ (by decide) (fun _ => rfl) gL1016_1
          have gL1018_2 : cv_get L1018 2 = some (cv_i b) := kL1018 2 _ (by decide) (fun _ => rfl) gL1016_2
          have gL1018_5 : cv_get L1018 5 = some (cv_i n) := kL1018 5 _ (by decide) (fun _ => rfl) gL1016_5
          have gL1018_6 : cv_get L1018 6 = some (cv_i sm) := kL1018 6 _ (by decide) (fun _ => rfl) gL1016_6
          refine ex_go oq_X12_wordAt_123 (t := 5) rfl rfl ?_
          have hc1 := wa_ct1 (f.toInt + n.toInt).toNat (by omega)
          rw [if_pos hsp] at hc1
          have e1 : x1015.toInt.toNat = (f.toInt + n.toInt).toNat + 1 := by omega
          exfalso; omega -- x1017 x1015 L1018 gL1018_0 gL1018_1 gL1018_2 gL1018_3 gL1018_4 (by omega) (by omega) (by omega) (by rw [e1]; omega)
        · refine ex_il oq_X12_wordAt_109 q3 ?_
          have hc0 := wa_ct2 f.toInt.toNat
          exact ex_reti oq_X12_wordAt_110 rfl (hret k (by omega) (by omega))
      · refine ex_ic oq_X12_wordAt_47 (m := 1) (by decide) (fun x1019 hx1019 => ?_)
        refine ex_go oq_X12_wordAt_48 (t := 52) rfl rfl ?_
        refine ex_iswA oq_X12_wordAt_52 (fun L1020 gL1020_6 kL1020 => ?_)
        have gL1020_0 : cv_get L1020 0 = some (cv_r 111) := kL1020 0 _ (by decide) (fun _ => rfl) q0
        have gL1020_1 : cv_get L1020 1 = some (cv_i a) := kL1020 1 _ (by decide) (fun _ => rfl) q1
        have gL1020_2 : cv_get L1020 2 = some (cv_i b) := kL1020 2 _ (by decide) (fun _ => rfl) q2
        have gL1020_3 : cv_get L1020 3 = some (cv_i k) := kL1020 3 _ (by decide) (fun _ => rfl) q3
        have gL1020_4 : cv_get L1020 4 = some (cv_i f) := kL1020 4 _ (by decide) (fun _ => rfl) q4
        have gL1020_5 : cv_get L1020 5 = some (cv_i n) := kL1020 5 _ (by decide) (fun _ => rfl) q5
        refine ex_ic oq_X12_wordAt_54 (m := 0) (by decide) (fun x1021 hx1021 => ?_)
        refine ex_iswA oq_X12_wordAt_55 (fun L1022 gL1022_7 kL1022 => ?_)
        have gL1022_6 : cv_get L1022 6 = some (cv_i x1019) := kL1022 6 _ (by decide) (fun _ => rfl) gL1020_6
        have gL1022_0 : cv_get L1022 0 = some (cv_r 111) := kL1022 0 _ (by decide) (fun _ => rfl) gL1020_0
        have gL1022_1 : cv_get L1022 1 = some (cv_i a) := kL1022 1 _ (by decide) (fun _ => rfl) gL1020_1
        have gL1022_2 : cv_get L1022 2 = some (cv_i b) := kL1022 2 _ (by decide) (fun _ => rfl) gL1020_2
        have gL1022_3 : cv_get L1022 3 = some (cv_i k) := kL1022 3 _ (by decide) (fun _ => rfl) gL1020_3
        have gL1022_4 : cv_get L1022 4 = some (cv_i f) := kL1022 4 _ (by decide) (fun _ => rfl) gL1020_4
        have gL1022_5 : cv_get L1022 5 = some (cv_i n) := kL1022 5 _ (by decide) (fun _ => rfl) gL1020_5
        refine wa_57 hT hP a0 a1 b0 b1 k f n (by omega) (by omega) (by omega) ?_ _ x1019 x1021 L1022 gL1022_0 gL1022_1 gL1022_2 gL1022_3 gL1022_4 gL1022_5 gL1022_6 gL1022_7 (by omega) (by omega) (by omega) (by omega) (Nat.le_refl _)
        intro sm L q0 q1 q2 q3 q4 q5 q6 hs0 hs1
        refine ex_ilw oq_X12_wordAt_104 q6 ?_
        refine ex_if0 oq_X12_wordAt_106 (t := 111) rfl rfl (fun (c1023 : sm.toInt = 0) => ?_) (fun (c1023 : ¬ (sm.toInt = 0)) => ?_)
        · refine ex_ilw oq_X12_wordAt_111 q4 ?_
          refine ex_ilw oq_X12_wordAt_113 q5 ?_
          refine ex_ic oq_X12_wordAt_115 (m := 1) (by decide) (fun x1024 hx1024 => ?_)
          refine ex_add oq_X12_wordAt_116 (by omega) (fun x1025 hx1025 => ?_)
          refine ex_add oq_X12_wordAt_117 (by omega) (fun x1026 hx1026 => ?_)
          refine ex_iswA oq_X12_wordAt_118 (fun L1027 gL1027_4 kL1027 => ?_)
          have gL1027_0 : cv_get L1027 0 = some (cv_r 111) := kL1027 0 _ (by decide) (fun _ => rfl) q0
          have gL1027_1 : cv_get L1027 1 = some (cv_i a) := kL1027 1 _ (by decide) (fun _ => rfl) q1
          have gL1027_2 : cv_get L1027 2 = some (cv_i b) := kL1027 2 _ (by decide) (fun _ => rfl) q2
          have gL1027_3 : cv_get L1027 3 = some (cv_i k) := kL1027 3 _ (by decide) (fun _ => rfl) q3
          have gL1027_5 : cv_get L1027 5 = some (cv_i n) := kL1027 5 _ (by decide) (fun _ => rfl) q5
          have gL1027_6 : cv_get L1027 6 = some (cv_i sm) := kL1027 6 _ (by decide) (fun _ => rfl) q6
          refine ex_incA oq_X12_wordAt_120 (v := k) (m := 1) gL1027_3 (by decide) (by omega) (fun L1029 x1028 hx1028 gL1029_3 kL1029 => ?_)
          have gL1029_4 : cv_get L1029 4 = some (cv_i x1026) := kL1029 4 _ (by decide) (fun _ => rfl) gL1027_4
          have gL1029_0 : cv_get L1029 0 = some (cv_r 111) := kL1029 0 _ (by decide) (fun _ => rfl) gL1027_0
          have gL1029_1 : cv_get L1029 1 = some (cv_i a) := kL1029 1 _ (by decide) (fun _ => rfl) gL1027_1
          have gL1029_2 : cv_get L1029 2 = some (cv_i b) := kL1029 2 _ (by decide) (fun _ => rfl) gL1027_2
          have gL1029_5 : cv_get L1029 5 = some (cv_i n) := kL1029 5 _ (by decide) (fun _ => rfl) gL1027_5
          have gL1029_6 : cv_get L1029 6 = some (cv_i sm) := kL1029 6 _ (by decide) (fun _ => rfl) gL1027_6
          refine ex_go oq_X12_wordAt_123 (t := 5) rfl rfl ?_
          have hc1 := wa_ct1 (f.toInt + n.toInt).toNat (by omega)
          rw [if_pos hsp] at hc1
          have e1 : x1026.toInt.toNat = (f.toInt + n.toInt).toNat + 1 := by omega
          exfalso; omega -- x1028 x1026 L1029 gL1029_0 gL1029_1 gL1029_2 gL1029_3 gL1029_4 (by omega) (by omega) (by omega) (by rw [e1]; omega)
        · refine ex_il oq_X12_wordAt_109 q3 ?_
          have hc0 := wa_ct2 f.toInt.toNat
          exact ex_reti oq_X12_wordAt_110 rfl (hret k (by omega) (by omega))
  | succ N ih =>
    intro k f L q0 q1 q2 q3 q4 f0 f1 hN hk
    have hk33 : f.toInt = 177 ∨ k.toInt ≤ 33 := by
      by_cases q : f.toInt = 177
      · exact .inl q
      · have := wa_ct2 f.toInt.toNat (by omega)
        omega
    refine ex_ilw oq_X12_wordAt_5 q4 ?_
    refine ex_al oq_X12_wordAt_7 q0 ?_
    refine ex_gf oq_X12_wordAt_8 hT (k := 111) (d := 12) rfl rfl (fr_words hT) ?_
    refine ex_len oq_X12_wordAt_11 hT (k := 113) (d := 52) rfl rfl (by decide) (fun x1001 hx1001 => ?_)
    refine ex_if oq_X12_wordAt_12 (t := 126) rfl rfl (fun (c1002 : x1001.toInt ≤ f.toInt) => ?_) (fun (c1002 : ¬ (x1001.toInt ≤ f.toInt)) => ?_)
    · refine ex_ic oq_X12_wordAt_126 (m := (-1)) (by decide) (fun x1003 hx1003 => ?_)
      have hc0 := wa_ct2 f.toInt.toNat
      exact ex_reti oq_X12_wordAt_127 rfl (hret x1003 (by omega) (by omega))
    · refine ex_ic oq_X12_wordAt_15 (m := 0) (by decide) (fun x1004 hx1004 => ?_)
      refine ex_iswA oq_X12_wordAt_16 (fun L1005 gL1005_5 kL1005 => ?_)
      have gL1005_0 : cv_get L1005 0 = some (cv_r 111) := kL1005 0 _ (by decide) (fun _ => rfl) q0
      have gL1005_1 : cv_get L1005 1 = some (cv_i a) := kL1005 1 _ (by decide) (fun _ => rfl) q1
      have gL1005_2 : cv_get L1005 2 = some (cv_i b) := kL1005 2 _ (by decide) (fun _ => rfl) q2
      have gL1005_3 : cv_get L1005 3 = some (cv_i k) := kL1005 3 _ (by decide) (fun _ => rfl) q3
      have gL1005_4 : cv_get L1005 4 = some (cv_i f) := kL1005 4 _ (by decide) (fun _ => rfl) q4
      have e18 : (f.toInt + x1004.toInt).toNat = f.toInt.toNat := by omega
      refine wa_18 hT hP a0 a1 b0 b1 k f (by omega) (by omega) hk ?_ _ x1004 L1005 gL1005_0 gL1005_1 gL1005_2 gL1005_3 gL1005_4 gL1005_5 (by omega) (by omega) (Nat.le_refl _) (by rw [e18]; exact hk)
      intro n L q0 q1 q2 q3 q4 q5 hn0 hn hkn hsp
      refine ex_ilw oq_X12_wordAt_39 q5 ?_
      refine ex_il oq_X12_wordAt_41 q2 ?_
      refine ex_il oq_X12_wordAt_42 q1 ?_
      refine ex_sub oq_X12_wordAt_43 (by omega) (fun x1006 hx1006 => ?_)
      refine ex_if oq_X12_wordAt_44 (t := 51) rfl rfl (fun (c1007 : ¬ n.toInt = x1006.toInt) => ?_) (fun (c1007 : ¬ (¬ n.toInt = x1006.toInt)) => ?_)
      · refine ex_ic oq_X12_wordAt_51 (m := 0) (by decide) (fun x1008 hx1008 => ?_)
        refine ex_iswA oq_X12_wordAt_52 (fun L1009 gL1009_6 kL1009 => ?_)
        have gL1009_0 : cv_get L1009 0 = some (cv_r 111) := kL1009 0 _ (by decide) (fun _ => rfl) q0
        have gL1009_1 : cv_get L1009 1 = some (cv_i a) := kL1009 1 _ (by decide) (fun _ => rfl) q1
        have gL1009_2 : cv_get L1009 2 = some (cv_i b) := kL1009 2 _ (by decide) (fun _ => rfl) q2
        have gL1009_3 : cv_get L1009 3 = some (cv_i k) := kL1009 3 _ (by decide) (fun _ => rfl) q3
        have gL1009_4 : cv_get L1009 4 = some (cv_i f) := kL1009 4 _ (by decide) (fun _ => rfl) q4
        have gL1009_5 : cv_get L1009 5 = some (cv_i n) := kL1009 5 _ (by decide) (fun _ => rfl) q5
        refine ex_ic oq_X12_wordAt_54 (m := 0) (by decide) (fun x1010 hx1010 => ?_)
        refine ex_iswA oq_X12_wordAt_55 (fun L1011 gL1011_7 kL1011 => ?_)
        have gL1011_6 : cv_get L1011 6 = some (cv_i x1008) := kL1011 6 _ (by decide) (fun _ => rfl) gL1009_6
        have gL1011_0 : cv_get L1011 0 = some (cv_r 111) := kL1011 0 _ (by decide) (fun _ => rfl) gL1009_0
        have gL1011_1 : cv_get L1011 1 = some (cv_i a) := kL1011 1 _ (by decide) (fun _ => rfl) gL1009_1
        have gL1011_2 : cv_get L1011 2 = some (cv_i b) := kL1011 2 _ (by decide) (fun _ => rfl) gL1009_2
        have gL1011_3 : cv_get L1011 3 = some (cv_i k) := kL1011 3 _ (by decide) (fun _ => rfl) gL1009_3
        have gL1011_4 : cv_get L1011 4 = some (cv_i f) := kL1011 4 _ (by decide) (fun _ => rfl) gL1009_4
        have gL1011_5 : cv_get L1011 5 = some (cv_i n) := kL1011 5 _ (by decide) (fun _ => rfl) gL1009_5
        refine wa_57 hT hP a0 a1 b0 b1 k f n (by omega) (by omega) (by omega) ?_ _ x1008 x1010 L1011 gL1011_0 gL1011_1 gL1011_2 gL1011_3 gL1011_4 gL1011_5 gL1011_6 gL1011_7 (by omega) (by omega) (by omega) (by omega) (Nat.le_refl _)
        intro sm L q0 q1 q2 q3 q4 q5 q6 hs0 hs1
        refine ex_ilw oq_X12_wordAt_104 q6 ?_
        refine ex_if0 oq_X12_wordAt_106 (t := 111) rfl rfl (fun (c1012 : sm.toInt = 0) => ?_) (fun (c1012 : ¬ (sm.toInt = 0)) => ?_)
        · refine ex_ilw oq_X12_wordAt_111 q4 ?_
          refine ex_ilw oq_X12_wordAt_113 q5 ?_
          refine ex_ic oq_X12_wordAt_115 (m := 1) (by decide) (fun x1013 hx1013 => ?_)
          refine ex_add oq_X12_wordAt_116 (by omega) (fun x1014 hx1014 => ?_)
          refine ex_add oq_X12_wordAt_117 (by omega) (fun x1015 hx1015 => ?_)
          refine ex_iswA oq_X12_wordAt_118 (fun L1016 gL1016_4 kL1016 => ?_)
          have gL1016_0 : cv_get L1016 0 = some (cv_r 111) := kL1016 0 _ (by decide) (fun _ => rfl) q0
          have gL1016_1 : cv_get L1016 1 = some (cv_i a) := kL1016 1 _ (by decide) (fun _ => rfl) q1
          have gL1016_2 : cv_get L1016 2 = some (cv_i b) := kL1016 2 _ (by decide) (fun _ => rfl) q2
          have gL1016_3 : cv_get L1016 3 = some (cv_i k) := kL1016 3 _ (by decide) (fun _ => rfl) q3
          have gL1016_5 : cv_get L1016 5 = some (cv_i n) := kL1016 5 _ (by decide) (fun _ => rfl) q5
          have gL1016_6 : cv_get L1016 6 = some (cv_i sm) := kL1016 6 _ (by decide) (fun _ => rfl) q6
          refine ex_incA oq_X12_wordAt_120 (v := k) (m := 1) gL1016_3 (by decide) (by omega) (fun L1018 x1017 hx1017 gL1018_3 kL1018 => ?_)
          have gL1018_4 : cv_get L1018 4 = some (cv_i x1015) := kL1018 4 _ (by decide) (fun _ => rfl) gL1016_4
          have gL1018_0 : cv_get L1018 0 = some (cv_r 111) := kL1018 0 _ (by decide) (fun _ => rfl) gL1016_0
          have gL1018_1 : cv_get L1018 1 = some (cv_i a) := kL1018 1 _ (by decide) (fun _ => rfl) gL1016_1
          have gL1018_2 : cv_get L1018 2 = some (cv_i b) := kL1018 2 _ (by decide) (fun _ => rfl) gL1016_2
          have gL1018_5 : cv_get L1018 5 = some (cv_i n) := kL1018 5 _ (by decide) (fun _ => rfl) gL1016_5
          have gL1018_6 : cv_get L1018 6 = some (cv_i sm) := kL1018 6 _ (by decide) (fun _ => rfl) gL1016_6
          refine ex_go oq_X12_wordAt_123 (t := 5) rfl rfl ?_
          have hc1 := wa_ct1 (f.toInt + n.toInt).toNat (by omega)
          rw [if_pos hsp] at hc1
          have e1 : x1015.toInt.toNat = (f.toInt + n.toInt).toNat + 1 := by omega
          exact ih x1017 x1015 L1018 gL1018_0 gL1018_1 gL1018_2 gL1018_3 gL1018_4 (by omega) (by omega) (by omega) (by rw [e1]; omega)
        · refine ex_il oq_X12_wordAt_109 q3 ?_
          have hc0 := wa_ct2 f.toInt.toNat
          exact ex_reti oq_X12_wordAt_110 rfl (hret k (by omega) (by omega))
      · refine ex_ic oq_X12_wordAt_47 (m := 1) (by decide) (fun x1019 hx1019 => ?_)
        refine ex_go oq_X12_wordAt_48 (t := 52) rfl rfl ?_
        refine ex_iswA oq_X12_wordAt_52 (fun L1020 gL1020_6 kL1020 => ?_)
        have gL1020_0 : cv_get L1020 0 = some (cv_r 111) := kL1020 0 _ (by decide) (fun _ => rfl) q0
        have gL1020_1 : cv_get L1020 1 = some (cv_i a) := kL1020 1 _ (by decide) (fun _ => rfl) q1
        have gL1020_2 : cv_get L1020 2 = some (cv_i b) := kL1020 2 _ (by decide) (fun _ => rfl) q2
        have gL1020_3 : cv_get L1020 3 = some (cv_i k) := kL1020 3 _ (by decide) (fun _ => rfl) q3
        have gL1020_4 : cv_get L1020 4 = some (cv_i f) := kL1020 4 _ (by decide) (fun _ => rfl) q4
        have gL1020_5 : cv_get L1020 5 = some (cv_i n) := kL1020 5 _ (by decide) (fun _ => rfl) q5
        refine ex_ic oq_X12_wordAt_54 (m := 0) (by decide) (fun x1021 hx1021 => ?_)
        refine ex_iswA oq_X12_wordAt_55 (fun L1022 gL1022_7 kL1022 => ?_)
        have gL1022_6 : cv_get L1022 6 = some (cv_i x1019) := kL1022 6 _ (by decide) (fun _ => rfl) gL1020_6
        have gL1022_0 : cv_get L1022 0 = some (cv_r 111) := kL1022 0 _ (by decide) (fun _ => rfl) gL1020_0
        have gL1022_1 : cv_get L1022 1 = some (cv_i a) := kL1022 1 _ (by decide) (fun _ => rfl) gL1020_1
        have gL1022_2 : cv_get L1022 2 = some (cv_i b) := kL1022 2 _ (by decide) (fun _ => rfl) gL1020_2
        have gL1022_3 : cv_get L1022 3 = some (cv_i k) := kL1022 3 _ (by decide) (fun _ => rfl) gL1020_3
        have gL1022_4 : cv_get L1022 4 = some (cv_i f) := kL1022 4 _ (by decide) (fun _ => rfl) gL1020_4
        have gL1022_5 : cv_get L1022 5 = some (cv_i n) := kL1022 5 _ (by decide) (fun _ => rfl) gL1020_5
        refine wa_57 hT hP a0 a1 b0 b1 k f n (by omega) (by omega) (by omega) ?_ _ x1019 x1021 L1022 gL1022_0 gL1022_1 gL1022_2 gL1022_3 gL1022_4 gL1022_5 gL1022_6 gL1022_7 (by omega) (by omega) (by omega) (by omega) (Nat.le_refl _)
        intro sm L q0 q1 q2 q3 q4 q5 q6 hs0 hs1
        refine ex_ilw oq_X12_wordAt_104 q6 ?_
        refine ex_if0 oq_X12_wordAt_106 (t := 111) rfl rfl (fun (c1023 : sm.toInt = 0) => ?_) (fun (c1023 : ¬ (sm.toInt = 0)) => ?_)
        · refine ex_ilw oq_X12_wordAt_111 q4 ?_
          refine ex_ilw oq_X12_wordAt_113 q5 ?_
          refine ex_ic oq_X12_wordAt_115 (m := 1) (by decide) (fun x1024 hx1024 => ?_)
          refine ex_add oq_X12_wordAt_116 (by omega) (fun x1025 hx1025 => ?_)
          refine ex_add oq_X12_wordAt_117 (by omega) (fun x1026 hx1026 => ?_)
          refine ex_iswA oq_X12_wordAt_118 (fun L1027 gL1027_4 kL1027 => ?_)
          have gL1027_0 : cv_get L1027 0 = some (cv_r 111) := kL1027 0 _ (by decide) (fun _ => rfl) q0
          have gL1027_1 : cv_get L1027 1 = some (cv_i a) := kL1027 1 _ (by decide) (fun _ => rfl) q1
          have gL1027_2 : cv_get L1027 2 = some (cv_i b) := kL1027 2 _ (by decide) (fun _ => rfl) q2
          have gL1027_3 : cv_get L1027 3 = some (cv_i k) := kL1027 3 _ (by decide) (fun _ => rfl) q3
          have gL1027_5 : cv_get L1027 5 = some (cv_i n) := kL1027 5 _ (by decide) (fun _ => rfl) q5
          have gL1027_6 : cv_get L1027 6 = some (cv_i sm) := kL1027 6 _ (by decide) (fun _ => rfl) q6
          refine ex_incA oq_X12_wordAt_120 (v := k) (m := 1) gL1027_3 (by decide) (by omega) (fun L1029 x1028 hx1028 gL1029_3 kL1029 => ?_)
          have gL1029_4 : cv_get L1029 4 = some (cv_i x1026) := kL1029 4 _ (by decide) (fun _ => rfl) gL1027_4
          have gL1029_0 : cv_get L1029 0 = some (cv_r 111) := kL1029 0 _ (by decide) (fun _ => rfl) gL1027_0
          have gL1029_1 : cv_get L1029 1 = some (cv_i a) := kL1029 1 _ (by decide) (fun _ => rfl) gL1027_1
          have gL1029_2 : cv_get L1029 2 = some (cv_i b) := kL1029 2 _ (by decide) (fun _ => rfl) gL1027_2
          have gL1029_5 : cv_get L1029 5 = some (cv_i n) := kL1029 5 _ (by decide) (fun _ => rfl) gL1027_5
          have gL1029_6 : cv_get L1029 6 = some (cv_i sm) := kL1029 6 _ (by decide) (fun _ => rfl) gL1027_6
          refine ex_go oq_X12_wordAt_123 (t := 5) rfl rfl ?_
          have hc1 := wa_ct1 (f.toInt + n.toInt).toNat (by omega)
          rw [if_pos hsp] at hc1
          have e1 : x1026.toInt.toNat = (f.toInt + n.toInt).toNat + 1 := by omega
          exact ih x1028 x1026 L1029 gL1029_0 gL1029_1 gL1029_2 gL1029_3 gL1029_4 (by omega) (by omega) (by omega) (by rw [e1]; omega)
        · refine ex_il oq_X12_wordAt_109 q3 ?_
          have hc0 := wa_ct2 f.toInt.toNat
          exact ex_reti oq_X12_wordAt_110 rfl (hret k (by omega) (by omega))
end SPB
theorem hk_X12_wordAt (G : Int) : cw_Holds fk_all mt_all cw_Ds cw_sh G (cw_PP G) kk_X12_wordAt := by
  refine cw_XH fun X h av hX hT hP hg hfp => ?_
  match av, hg with
  | [v0, v1, v2], ⟨h0, ⟨a, e1, ra⟩, ⟨b, e2, rb⟩, _⟩ =>
  obtain rfl : v0 = cv_r 111 := by
    rcases h0 with ⟨-, k, rfl, hk⟩ | ⟨j, hj, -⟩
    · rw [ri_uniq (d := 12) (k := 111) (by decide +kernel) k hk]
    · omega
  subst e1 e2
  have a0 := ra.1
  have a1 := ra.2.1
  have b0 := rb.1
  have b1 := rb.2.1
  dsimp only at a0 a1 b0 b1
  refine ex_ic oq_X12_wordAt_0 (m := 0) (by decide) (fun x2001 hx2001 => ?_)
  refine ex_isA oq_X12_wordAt_1 (fun L2002 gL2002_3 kL2002 => ?_)
  have gL2002_0 : cv_get L2002 0 = some (cv_r 111) := kL2002 0 _ (by decide) (fun _ => rfl) rfl
  have gL2002_1 : cv_get L2002 1 = some (cv_i a) := kL2002 1 _ (by decide) (fun _ => rfl) rfl
  have gL2002_2 : cv_get L2002 2 = some (cv_i b) := kL2002 2 _ (by decide) (fun _ => rfl) rfl
  refine ex_ic oq_X12_wordAt_2 (m := 0) (by decide) (fun x2003 hx2003 => ?_)
  refine ex_iswA oq_X12_wordAt_3 (fun L2004 gL2004_4 kL2004 => ?_)
  have gL2004_3 : cv_get L2004 3 = some (cv_i x2001) := kL2004 3 _ (by decide) (fun _ => rfl) gL2002_3
  have gL2004_0 : cv_get L2004 0 = some (cv_r 111) := kL2004 0 _ (by decide) (fun _ => rfl) gL2002_0
  have gL2004_1 : cv_get L2004 1 = some (cv_i a) := kL2004 1 _ (by decide) (fun _ => rfl) gL2002_1
  have gL2004_2 : cv_get L2004 2 = some (cv_i b) := kL2004 2 _ (by decide) (fun _ => rfl) gL2002_2
  have e5 : x2003.toInt.toNat = 0 := by omega
  exact wa_5 hT hP a0 a1 b0 b1 (fun x x0 x1 => ⟨⟨x, rfl, x0, x1, cw_tg0⟩, ⟨hT, hP⟩, cw_Fr_refl, fun y hy hy0 => ⟨fun t ht => absurd ht List.not_mem_nil, fun t ht => absurd ht List.not_mem_nil⟩⟩) 177 x2001 x2003 L2004 gL2004_0 gL2004_1 gL2004_2 gL2004_3 gL2004_4 (by omega) (by omega) (by omega) (by rw [e5, hx2001]; decide +kernel)
