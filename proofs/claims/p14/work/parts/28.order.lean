/-! ===== methods walked by hand: orders ===== -/
section SPI
variable {G : Int} {X : cv_X} {Q : cv_O → Prop}
def od_p (n : Int) (h : cv_H) : Prop := (∀ i : Nat, i < 4 → (i : Int) < n → 0 ≤ ri_at h 145 i ∧ ri_at h 145 i < n) ∧ (∀ i j : Nat, i < 4 → j < 4 → (i : Int) < n → (j : Int) < n → i ≠ j → ri_at h 145 i ≠ ri_at h 145 j)
def od_r (h : cv_H) : Int := 64 * ri_at h 145 0 + 16 * ri_at h 145 1 + 4 * ri_at h 145 2 + ri_at h 145 3
theorem oq_X12_nextOrder_0 : cw_ho 265 0 (.iload_n 1) 1 0 0 0 := rfl
theorem oq_X12_nextOrder_1 : cw_ho 265 1 (.iconst 2) 1 0 0 0 := rfl
theorem oq_X12_nextOrder_2 : cw_ho 265 2 (.isub) 1 0 0 0 := rfl
theorem oq_X12_nextOrder_3 : cw_ho 265 3 (.istore_n 2) 1 0 0 0 := rfl
theorem oq_X12_nextOrder_4 : cw_ho 265 4 (.iload_n 2) 1 0 0 0 := rfl
theorem oq_X12_nextOrder_5 : cw_ho 265 5 (.ifCond .lt 20) 3 0 0 0 := rfl
theorem oq_X12_nextOrder_8 : cw_ho 265 8 (.aload_n 0) 1 0 0 0 := rfl
theorem oq_X12_nextOrder_9 : cw_ho 265 9 (.iload_n 2) 1 0 0 0 := rfl
theorem oq_X12_nextOrder_10 : cw_ho 265 10 (.iaload) 1 0 0 0 := rfl
theorem oq_X12_nextOrder_11 : cw_ho 265 11 (.aload_n 0) 1 0 0 0 := rfl
theorem oq_X12_nextOrder_12 : cw_ho 265 12 (.iload_n 2) 1 0 0 0 := rfl
theorem oq_X12_nextOrder_13 : cw_ho 265 13 (.iconst 1) 1 0 0 0 := rfl
theorem oq_X12_nextOrder_14 : cw_ho 265 14 (.iadd) 1 0 0 0 := rfl
theorem oq_X12_nextOrder_15 : cw_ho 265 15 (.iaload) 1 0 0 0 := rfl
theorem oq_X12_nextOrder_16 : cw_ho 265 16 (.if_icmp .le 9) 3 0 0 0 := rfl
theorem oq_X12_nextOrder_19 : cw_ho 265 19 (.iinc 2 (-1)) 3 0 0 0 := rfl
theorem oq_X12_nextOrder_22 : cw_ho 265 22 (.goto (-18)) 3 0 0 0 := rfl
theorem oq_X12_nextOrder_25 : cw_ho 265 25 (.iload_n 2) 1 0 0 0 := rfl
theorem oq_X12_nextOrder_26 : cw_ho 265 26 (.ifCond .ge 5) 3 0 0 0 := rfl
theorem oq_X12_nextOrder_29 : cw_ho 265 29 (.iconst 0) 1 0 0 0 := rfl
theorem oq_X12_nextOrder_30 : cw_ho 265 30 (.ireturn) 1 0 0 0 := rfl
theorem oq_X12_nextOrder_31 : cw_ho 265 31 (.iload_n 1) 1 0 0 0 := rfl
theorem oq_X12_nextOrder_32 : cw_ho 265 32 (.iconst 1) 1 0 0 0 := rfl
theorem oq_X12_nextOrder_33 : cw_ho 265 33 (.isub) 1 0 0 0 := rfl
theorem oq_X12_nextOrder_34 : cw_ho 265 34 (.istore_n 3) 1 0 0 0 := rfl
theorem oq_X12_nextOrder_35 : cw_ho 265 35 (.aload_n 0) 1 0 0 0 := rfl
theorem oq_X12_nextOrder_36 : cw_ho 265 36 (.iload_n 3) 1 0 0 0 := rfl
theorem oq_X12_nextOrder_37 : cw_ho 265 37 (.iaload) 1 0 0 0 := rfl
theorem oq_X12_nextOrder_38 : cw_ho 265 38 (.aload_n 0) 1 0 0 0 := rfl
theorem oq_X12_nextOrder_39 : cw_ho 265 39 (.iload_n 2) 1 0 0 0 := rfl
theorem oq_X12_nextOrder_40 : cw_ho 265 40 (.iaload) 1 0 0 0 := rfl
theorem oq_X12_nextOrder_41 : cw_ho 265 41 (.if_icmp .ge 9) 3 0 0 0 := rfl
theorem oq_X12_nextOrder_44 : cw_ho 265 44 (.iinc 3 (-1)) 3 0 0 0 := rfl
theorem oq_X12_nextOrder_47 : cw_ho 265 47 (.goto (-12)) 3 0 0 0 := rfl
theorem oq_X12_nextOrder_50 : cw_ho 265 50 (.aload_n 0) 1 0 0 0 := rfl
theorem oq_X12_nextOrder_51 : cw_ho 265 51 (.iload_n 2) 1 0 0 0 := rfl
theorem oq_X12_nextOrder_52 : cw_ho 265 52 (.iaload) 1 0 0 0 := rfl
theorem oq_X12_nextOrder_53 : cw_ho 265 53 (.istore 4) 2 0 0 0 := rfl
theorem oq_X12_nextOrder_55 : cw_ho 265 55 (.aload_n 0) 1 0 0 0 := rfl
theorem oq_X12_nextOrder_56 : cw_ho 265 56 (.iload_n 2) 1 0 0 0 := rfl
theorem oq_X12_nextOrder_57 : cw_ho 265 57 (.aload_n 0) 1 0 0 0 := rfl
theorem oq_X12_nextOrder_58 : cw_ho 265 58 (.iload_n 3) 1 0 0 0 := rfl
theorem oq_X12_nextOrder_59 : cw_ho 265 59 (.iaload) 1 0 0 0 := rfl
theorem oq_X12_nextOrder_60 : cw_ho 265 60 (.iastore) 1 0 0 0 := rfl
theorem oq_X12_nextOrder_61 : cw_ho 265 61 (.aload_n 0) 1 0 0 0 := rfl
theorem oq_X12_nextOrder_62 : cw_ho 265 62 (.iload_n 3) 1 0 0 0 := rfl
theorem oq_X12_nextOrder_63 : cw_ho 265 63 (.iload 4) 2 0 0 0 := rfl
theorem oq_X12_nextOrder_65 : cw_ho 265 65 (.iastore) 1 0 0 0 := rfl
theorem oq_X12_nextOrder_66 : cw_ho 265 66 (.iload_n 2) 1 0 0 0 := rfl
theorem oq_X12_nextOrder_67 : cw_ho 265 67 (.iconst 1) 1 0 0 0 := rfl
theorem oq_X12_nextOrder_68 : cw_ho 265 68 (.iadd) 1 0 0 0 := rfl
theorem oq_X12_nextOrder_69 : cw_ho 265 69 (.istore 5) 2 0 0 0 := rfl
theorem oq_X12_nextOrder_71 : cw_ho 265 71 (.iload_n 1) 1 0 0 0 := rfl
theorem oq_X12_nextOrder_72 : cw_ho 265 72 (.iconst 1) 1 0 0 0 := rfl
theorem oq_X12_nextOrder_73 : cw_ho 265 73 (.isub) 1 0 0 0 := rfl
theorem oq_X12_nextOrder_74 : cw_ho 265 74 (.istore 6) 2 0 0 0 := rfl
theorem oq_X12_nextOrder_76 : cw_ho 265 76 (.iload 5) 2 0 0 0 := rfl
theorem oq_X12_nextOrder_78 : cw_ho 265 78 (.iload 6) 2 0 0 0 := rfl
theorem oq_X12_nextOrder_80 : cw_ho 265 80 (.if_icmp .ge 32) 3 0 0 0 := rfl
theorem oq_X12_nextOrder_83 : cw_ho 265 83 (.aload_n 0) 1 0 0 0 := rfl
theorem oq_X12_nextOrder_84 : cw_ho 265 84 (.iload 5) 2 0 0 0 := rfl
theorem oq_X12_nextOrder_86 : cw_ho 265 86 (.iaload) 1 0 0 0 := rfl
theorem oq_X12_nextOrder_87 : cw_ho 265 87 (.istore 4) 2 0 0 0 := rfl
theorem oq_X12_nextOrder_89 : cw_ho 265 89 (.aload_n 0) 1 0 0 0 := rfl
theorem oq_X12_nextOrder_90 : cw_ho 265 90 (.iload 5) 2 0 0 0 := rfl
theorem oq_X12_nextOrder_92 : cw_ho 265 92 (.aload_n 0) 1 0 0 0 := rfl
theorem oq_X12_nextOrder_93 : cw_ho 265 93 (.iload 6) 2 0 0 0 := rfl
theorem oq_X12_nextOrder_95 : cw_ho 265 95 (.iaload) 1 0 0 0 := rfl
theorem oq_X12_nextOrder_96 : cw_ho 265 96 (.iastore) 1 0 0 0 := rfl
theorem oq_X12_nextOrder_97 : cw_ho 265 97 (.aload_n 0) 1 0 0 0 := rfl
theorem oq_X12_nextOrder_98 : cw_ho 265 98 (.iload 6) 2 0 0 0 := rfl
theorem oq_X12_nextOrder_100 : cw_ho 265 100 (.iload 4) 2 0 0 0 := rfl
theorem oq_X12_nextOrder_102 : cw_ho 265 102 (.iastore) 1 0 0 0 := rfl
theorem oq_X12_nextOrder_103 : cw_ho 265 103 (.iinc 5 1) 3 0 0 0 := rfl
theorem oq_X12_nextOrder_106 : cw_ho 265 106 (.iinc 6 (-1)) 3 0 0 0 := rfl
theorem oq_X12_nextOrder_109 : cw_ho 265 109 (.goto (-33)) 3 0 0 0 := rfl
theorem oq_X12_nextOrder_112 : cw_ho 265 112 (.iconst 1) 1 0 0 0 := rfl
theorem oq_X12_nextOrder_113 : cw_ho 265 113 (.ireturn) 1 0 0 0 := rfl
theorem no_1 {h : cv_H} (hT : cw_T G h) (n : Int32) (hn : n.toInt = 1) (hp : od_p 1 h) (hQ : ∀ (x : Int32) (h' : cv_H), cw_T G h' → cw_Fr cw_Ds cw_sh kk_X12_nextOrder.2.2.2.2.2.1 h h' → 0 ≤ x.toInt → x.toInt ≤ 1 → (x.toInt = 1 → od_p 1 h' ∧ od_r h < od_r h') → Q (some (cv_i x), h')) : cw_X X 265 Q 0 (cv_ent 0 [cv_r 145, cv_i n]) [] h := by
  have Fh : cw_Fr cw_Ds cw_sh kk_X12_nextOrder.2.2.2.2.2.1 h h := cw_Fr_refl
  have p0 := hp.1 0 (by decide) (by decide)
  refine ex_il oq_X12_nextOrder_0 rfl ?_
  refine ex_ic oq_X12_nextOrder_1 (m := 2) (by decide) (fun x1001 hx1001 => ?_)
  refine ex_sub oq_X12_nextOrder_2 (by omega) (fun x1002 hx1002 => ?_)
  refine ex_isA oq_X12_nextOrder_3 (fun L1003 gL1003_2 kL1003 => ?_)
  have gL1003_0 : cv_get L1003 0 = some (cv_r 145) := kL1003 0 _ (by decide) (fun q => absurd q (by decide)) rfl
  have gL1003_1 : cv_get L1003 1 = some (cv_i n) := kL1003 1 _ (by decide) (fun _ => rfl) rfl
  refine ex_il oq_X12_nextOrder_4 gL1003_2 ?_
  refine ex_if0 oq_X12_nextOrder_5 (t := 25) rfl rfl (fun (c1004 : x1002.toInt < 0) => ?_) (fun (c1004 : ¬ (x1002.toInt < 0)) => ?_)
  · refine ex_il oq_X12_nextOrder_25 gL1003_2 ?_
    refine ex_if0 oq_X12_nextOrder_26 (t := 31) rfl rfl (fun (c1005 : 0 ≤ x1002.toInt) => ?_) (fun (c1005 : ¬ (0 ≤ x1002.toInt)) => ?_)
    · exfalso; omega
    · refine ex_ic oq_X12_nextOrder_29 (m := 0) (by decide) (fun x1006 hx1006 => ?_)
      exact ex_retb oq_X12_nextOrder_30 rfl (by omega) (by omega) (hQ x1006 h hT Fh (by omega) (by omega) (fun q => absurd q (by omega)))
  · exfalso; omega
theorem no_2 {h : cv_H} (hT : cw_T G h) (n : Int32) (hn : n.toInt = 2) (hp : od_p 2 h) (hQ : ∀ (x : Int32) (h' : cv_H), cw_T G h' → cw_Fr cw_Ds cw_sh kk_X12_nextOrder.2.2.2.2.2.1 h h' → 0 ≤ x.toInt → x.toInt ≤ 1 → (x.toInt = 1 → od_p 2 h' ∧ od_r h < od_r h') → Q (some (cv_i x), h')) : cw_X X 265 Q 0 (cv_ent 0 [cv_r 145, cv_i n]) [] h := by
  have Fh : cw_Fr cw_Ds cw_sh kk_X12_nextOrder.2.2.2.2.2.1 h h := cw_Fr_refl
  have p0 := hp.1 0 (by decide) (by decide)
  have p1 := hp.1 1 (by decide) (by decide)
  have d10 := hp.2 1 0 (by decide) (by decide) (by decide) (by decide) (by decide)
  refine ex_il oq_X12_nextOrder_0 rfl ?_
  refine ex_ic oq_X12_nextOrder_1 (m := 2) (by decide) (fun x2001 hx2001 => ?_)
  refine ex_sub oq_X12_nextOrder_2 (by omega) (fun x2002 hx2002 => ?_)
  refine ex_isA oq_X12_nextOrder_3 (fun L2003 gL2003_2 kL2003 => ?_)
  have gL2003_0 : cv_get L2003 0 = some (cv_r 145) := kL2003 0 _ (by decide) (fun q => absurd q (by decide)) rfl
  have gL2003_1 : cv_get L2003 1 = some (cv_i n) := kL2003 1 _ (by decide) (fun _ => rfl) rfl
  refine ex_il oq_X12_nextOrder_4 gL2003_2 ?_
  refine ex_if0 oq_X12_nextOrder_5 (t := 25) rfl rfl (fun (c2004 : x2002.toInt < 0) => ?_) (fun (c2004 : ¬ (x2002.toInt < 0)) => ?_)
  · exfalso; omega
  · refine ex_al oq_X12_nextOrder_8 gL2003_0 ?_
    refine ex_il oq_X12_nextOrder_9 gL2003_2 ?_
    refine ex_ia1 oq_X12_nextOrder_10 hT (k := 145) (d := 84) (j := 0) rfl rfl (by omega) (by omega) (fun x2005 hx2005 lx2005 ux2005 => ?_)
    refine ex_al oq_X12_nextOrder_11 gL2003_0 ?_
    refine ex_il oq_X12_nextOrder_12 gL2003_2 ?_
    refine ex_ic oq_X12_nextOrder_13 (m := 1) (by decide) (fun x2006 hx2006 => ?_)
    refine ex_add oq_X12_nextOrder_14 (by omega) (fun x2007 hx2007 => ?_)
    refine ex_ia1 oq_X12_nextOrder_15 hT (k := 145) (d := 84) (j := 1) rfl rfl (by omega) (by omega) (fun x2008 hx2008 lx2008 ux2008 => ?_)
    refine ex_if oq_X12_nextOrder_16 (t := 25) rfl rfl (fun (c2009 : x2005.toInt ≤ x2008.toInt) => ?_) (fun (c2009 : ¬ (x2005.toInt ≤ x2008.toInt)) => ?_)
    · refine ex_il oq_X12_nextOrder_25 gL2003_2 ?_
      refine ex_if0 oq_X12_nextOrder_26 (t := 31) rfl rfl (fun (c2010 : 0 ≤ x2002.toInt) => ?_) (fun (c2010 : ¬ (0 ≤ x2002.toInt)) => ?_)
      · refine ex_il oq_X12_nextOrder_31 gL2003_1 ?_
        refine ex_ic oq_X12_nextOrder_32 (m := 1) (by decide) (fun x2011 hx2011 => ?_)
        refine ex_sub oq_X12_nextOrder_33 (by omega) (fun x2012 hx2012 => ?_)
        refine ex_isA oq_X12_nextOrder_34 (fun L2013 gL2013_3 kL2013 => ?_)
        have gL2013_2 : cv_get L2013 2 = some (cv_i x2002) := kL2013 2 _ (by decide) (fun _ => rfl) gL2003_2
        have gL2013_0 : cv_get L2013 0 = some (cv_r 145) := kL2013 0 _ (by decide) (fun q => absurd q (by decide)) gL2003_0
        have gL2013_1 : cv_get L2013 1 = some (cv_i n) := kL2013 1 _ (by decide) (fun q => absurd q (by decide)) gL2003_1
        refine ex_al oq_X12_nextOrder_35 gL2013_0 ?_
        refine ex_il oq_X12_nextOrder_36 gL2013_3 ?_
        refine ex_ia1 oq_X12_nextOrder_37 hT (k := 145) (d := 84) (j := 1) rfl rfl (by omega) (by omega) (fun x2014 hx2014 lx2014 ux2014 => ?_)
        refine ex_al oq_X12_nextOrder_38 gL2013_0 ?_
        refine ex_il oq_X12_nextOrder_39 gL2013_2 ?_
        refine ex_ia1 oq_X12_nextOrder_40 hT (k := 145) (d := 84) (j := 0) rfl rfl (by omega) (by omega) (fun x2015 hx2015 lx2015 ux2015 => ?_)
        refine ex_if oq_X12_nextOrder_41 (t := 50) rfl rfl (fun (c2016 : x2015.toInt ≤ x2014.toInt) => ?_) (fun (c2016 : ¬ (x2015.toInt ≤ x2014.toInt)) => ?_)
        · refine ex_al oq_X12_nextOrder_50 gL2013_0 ?_
          refine ex_il oq_X12_nextOrder_51 gL2013_2 ?_
          refine ex_ia1 oq_X12_nextOrder_52 hT (k := 145) (d := 84) (j := 0) rfl rfl (by omega) (by omega) (fun x2017 hx2017 lx2017 ux2017 => ?_)
          refine ex_iswA oq_X12_nextOrder_53 (fun L2018 gL2018_4 kL2018 => ?_)
          have gL2018_3 : cv_get L2018 3 = some (cv_i x2012) := kL2018 3 _ (by decide) (fun _ => rfl) gL2013_3
          have gL2018_2 : cv_get L2018 2 = some (cv_i x2002) := kL2018 2 _ (by decide) (fun q => absurd q (by decide)) gL2013_2
          have gL2018_0 : cv_get L2018 0 = some (cv_r 145) := kL2018 0 _ (by decide) (fun q => absurd q (by decide)) gL2013_0
          have gL2018_1 : cv_get L2018 1 = some (cv_i n) := kL2018 1 _ (by decide) (fun q => absurd q (by decide)) gL2013_1
          refine ex_al oq_X12_nextOrder_55 gL2018_0 ?_
          refine ex_il oq_X12_nextOrder_56 gL2018_2 ?_
          refine ex_al oq_X12_nextOrder_57 gL2018_0 ?_
          refine ex_il oq_X12_nextOrder_58 gL2018_3 ?_
          refine ex_ia1 oq_X12_nextOrder_59 hT (k := 145) (d := 84) (j := 1) rfl rfl (by omega) (by omega) (fun x2019 hx2019 lx2019 ux2019 => ?_)
          refine ex_iw1 oq_X12_nextOrder_60 hT (k := 145) (d := 84) (j := 0) rfl rfl (by omega) (by omega) ⟨by omega, by omega⟩ (fun h2020 Th2020 wh2020 => ?_)
          have Fh2020 : cw_Fr cw_Ds cw_sh kk_X12_nextOrder.2.2.2.2.2.1 h h2020 := cw_Fr_tr Fh (cw_Fr_wrr wh2020 (k := 145) (d := 84) rfl rfl (by decide +kernel))
          have eh2020_o0 : ri_at h2020 145 0 = x2019.toInt := ri_self wh2020
          have eh2020_o1 : ri_at h2020 145 1 = ri_at h 145 1 := ri_ne wh2020 (.inr (by decide))
          have eh2020_o2 : ri_at h2020 145 2 = ri_at h 145 2 := ri_ne wh2020 (.inr (by decide))
          have eh2020_o3 : ri_at h2020 145 3 = ri_at h 145 3 := ri_ne wh2020 (.inr (by decide))
          refine ex_al oq_X12_nextOrder_61 gL2018_0 ?_
          refine ex_il oq_X12_nextOrder_62 gL2018_3 ?_
          refine ex_ilw oq_X12_nextOrder_63 gL2018_4 ?_
          refine ex_iw1 oq_X12_nextOrder_65 Th2020 (k := 145) (d := 84) (j := 1) rfl rfl (by omega) (by omega) ⟨by omega, by omega⟩ (fun h2021 Th2021 wh2021 => ?_)
          have Fh2021 : cw_Fr cw_Ds cw_sh kk_X12_nextOrder.2.2.2.2.2.1 h h2021 := cw_Fr_tr Fh2020 (cw_Fr_wrr wh2021 (k := 145) (d := 84) rfl rfl (by decide +kernel))
          have eh2021_o0 : ri_at h2021 145 0 = ri_at h2020 145 0 := ri_ne wh2021 (.inr (by decide))
          have eh2021_o1 : ri_at h2021 145 1 = x2017.toInt := ri_self wh2021
          have eh2021_o2 : ri_at h2021 145 2 = ri_at h2020 145 2 := ri_ne wh2021 (.inr (by decide))
          have eh2021_o3 : ri_at h2021 145 3 = ri_at h2020 145 3 := ri_ne wh2021 (.inr (by decide))
          refine ex_il oq_X12_nextOrder_66 gL2018_2 ?_
          refine ex_ic oq_X12_nextOrder_67 (m := 1) (by decide) (fun x2022 hx2022 => ?_)
          refine ex_add oq_X12_nextOrder_68 (by omega) (fun x2023 hx2023 => ?_)
          refine ex_iswA oq_X12_nextOrder_69 (fun L2024 gL2024_5 kL2024 => ?_)
          have gL2024_4 : cv_get L2024 4 = some (cv_i x2017) := kL2024 4 _ (by decide) (fun _ => rfl) gL2018_4
          have gL2024_3 : cv_get L2024 3 = some (cv_i x2012) := kL2024 3 _ (by decide) (fun q => absurd q (by decide)) gL2018_3
          have gL2024_2 : cv_get L2024 2 = some (cv_i x2002) := kL2024 2 _ (by decide) (fun q => absurd q (by decide)) gL2018_2
          have gL2024_0 : cv_get L2024 0 = some (cv_r 145) := kL2024 0 _ (by decide) (fun q => absurd q (by decide)) gL2018_0
          have gL2024_1 : cv_get L2024 1 = some (cv_i n) := kL2024 1 _ (by decide) (fun q => absurd q (by decide)) gL2018_1
          refine ex_il oq_X12_nextOrder_71 gL2024_1 ?_
          refine ex_ic oq_X12_nextOrder_72 (m := 1) (by decide) (fun x2025 hx2025 => ?_)
          refine ex_sub oq_X12_nextOrder_73 (by omega) (fun x2026 hx2026 => ?_)
          refine ex_iswA oq_X12_nextOrder_74 (fun L2027 gL2027_6 kL2027 => ?_)
          have gL2027_5 : cv_get L2027 5 = some (cv_i x2023) := kL2027 5 _ (by decide) (fun _ => rfl) gL2024_5
          have gL2027_4 : cv_get L2027 4 = some (cv_i x2017) := kL2027 4 _ (by decide) (fun q => absurd q (by decide)) gL2024_4
          have gL2027_3 : cv_get L2027 3 = some (cv_i x2012) := kL2027 3 _ (by decide) (fun q => absurd q (by decide)) gL2024_3
          have gL2027_2 : cv_get L2027 2 = some (cv_i x2002) := kL2027 2 _ (by decide) (fun q => absurd q (by decide)) gL2024_2
          have gL2027_0 : cv_get L2027 0 = some (cv_r 145) := kL2027 0 _ (by decide) (fun q => absurd q (by decide)) gL2024_0
          have gL2027_1 : cv_get L2027 1 = some (cv_i n) := kL2027 1 _ (by decide) (fun q => absurd q (by decide)) gL2024_1
          refine ex_ilw oq_X12_nextOrder_76 gL2027_5 ?_
          refine ex_ilw oq_X12_nextOrder_78 gL2027_6 ?_
          refine ex_if oq_X12_nextOrder_80 (t := 112) rfl rfl (fun (c2028 : x2026.toInt ≤ x2023.toInt) => ?_) (fun (c2028 : ¬ (x2026.toInt ≤ x2023.toInt)) => ?_)
          · refine ex_ic oq_X12_nextOrder_112 (m := 1) (by decide) (fun x2029 hx2029 => ?_)
            refine ex_retb oq_X12_nextOrder_113 rfl (by omega) (by omega) (hQ x2029 h2021 Th2021 Fh2021 (by omega) (by omega) (fun _ => ⟨⟨?_, ?_⟩, ?_⟩))
            · intro i hi hin
              match i, hi, hin with
              | 0, _, hin => omega
              | 1, _, hin => omega
              | 2, _, hin => omega
              | 3, _, hin => omega
            · intro i j hi hj hin hjn hij
              match i, hi, hin, j, hj, hjn, hij with
              | 0, _, hin, 0, _, hjn, hij => omega
              | 0, _, hin, 1, _, hjn, hij => omega
              | 0, _, hin, 2, _, hjn, hij => omega
              | 0, _, hin, 3, _, hjn, hij => omega
              | 1, _, hin, 0, _, hjn, hij => omega
              | 1, _, hin, 1, _, hjn, hij => omega
              | 1, _, hin, 2, _, hjn, hij => omega
              | 1, _, hin, 3, _, hjn, hij => omega
              | 2, _, hin, 0, _, hjn, hij => omega
              | 2, _, hin, 1, _, hjn, hij => omega
              | 2, _, hin, 2, _, hjn, hij => omega
              | 2, _, hin, 3, _, hjn, hij => omega
              | 3, _, hin, 0, _, hjn, hij => omega
              | 3, _, hin, 1, _, hjn, hij => omega
              | 3, _, hin, 2, _, hjn, hij => omega
              | 3, _, hin, 3, _, hjn, hij => omega
            · unfold od_r; omega
          · exfalso; omega
        · exfalso; omega
      · exfalso; omega
    · refine ex_incA oq_X12_nextOrder_19 (v := x2002) (m := (-1)) gL2003_2 (by decide) (by omega) (fun L2031 x2030 hx2030 gL2031_2 kL2031 => ?_)
      have gL2031_0 : cv_get L2031 0 = some (cv_r 145) := kL2031 0 _ (by decide) (fun q => absurd q (by decide)) gL2003_0
      have gL2031_1 : cv_get L2031 1 = some (cv_i n) := kL2031 1 _ (by decide) (fun _ => rfl) gL2003_1
      refine ex_go oq_X12_nextOrder_22 (t := 4) rfl rfl ?_
      refine ex_il oq_X12_nextOrder_4 gL2031_2 ?_
      refine ex_if0 oq_X12_nextOrder_5 (t := 25) rfl rfl (fun (c2032 : x2030.toInt < 0) => ?_) (fun (c2032 : ¬ (x2030.toInt < 0)) => ?_)
      · refine ex_il oq_X12_nextOrder_25 gL2031_2 ?_
        refine ex_if0 oq_X12_nextOrder_26 (t := 31) rfl rfl (fun (c2033 : 0 ≤ x2030.toInt) => ?_) (fun (c2033 : ¬ (0 ≤ x2030.toInt)) => ?_)
        · exfalso; omega
        · refine ex_ic oq_X12_nextOrder_29 (m := 0) (by decide) (fun x2034 hx2034 => ?_)
          exact ex_retb oq_X12_nextOrder_30 rfl (by omega) (by omega) (hQ x2034 h hT Fh (by omega) (by omega) (fun q => absurd q (by omega)))
      · exfalso; omega
theorem no_3 {h : cv_H} (hT : cw_T G h) (n : Int32) (hn : n.toInt = 3) (hp : od_p 3 h) (hQ : ∀ (x : Int32) (h' : cv_H), cw_T G h' → cw_Fr cw_Ds cw_sh kk_X12_nextOrder.2.2.2.2.2.1 h h' → 0 ≤ x.toInt → x.toInt ≤ 1 → (x.toInt = 1 → od_p 3 h' ∧ od_r h < od_r h') → Q (some (cv_i x), h')) : cw_X X 265 Q 0 (cv_ent 0 [cv_r 145, cv_i n]) [] h := by
  have Fh : cw_Fr cw_Ds cw_sh kk_X12_nextOrder.2.2.2.2.2.1 h h := cw_Fr_refl
  have p0 := hp.1 0 (by decide) (by decide)
  have p1 := hp.1 1 (by decide) (by decide)
  have p2 := hp.1 2 (by decide) (by decide)
  have d10 := hp.2 1 0 (by decide) (by decide) (by decide) (by decide) (by decide)
  have d20 := hp.2 2 0 (by decide) (by decide) (by decide) (by decide) (by decide)
  have d21 := hp.2 2 1 (by decide) (by decide) (by decide) (by decide) (by decide)
  refine ex_il oq_X12_nextOrder_0 rfl ?_
  refine ex_ic oq_X12_nextOrder_1 (m := 2) (by decide) (fun x3001 hx3001 => ?_)
  refine ex_sub oq_X12_nextOrder_2 (by omega) (fun x3002 hx3002 => ?_)
  refine ex_isA oq_X12_nextOrder_3 (fun L3003 gL3003_2 kL3003 => ?_)
  have gL3003_0 : cv_get L3003 0 = some (cv_r 145) := kL3003 0 _ (by decide) (fun q => absurd q (by decide)) rfl
  have gL3003_1 : cv_get L3003 1 = some (cv_i n) := kL3003 1 _ (by decide) (fun _ => rfl) rfl
  refine ex_il oq_X12_nextOrder_4 gL3003_2 ?_
  refine ex_if0 oq_X12_nextOrder_5 (t := 25) rfl rfl (fun (c3004 : x3002.toInt < 0) => ?_) (fun (c3004 : ¬ (x3002.toInt < 0)) => ?_)
  · exfalso; omega
  · refine ex_al oq_X12_nextOrder_8 gL3003_0 ?_
    refine ex_il oq_X12_nextOrder_9 gL3003_2 ?_
    refine ex_ia1 oq_X12_nextOrder_10 hT (k := 145) (d := 84) (j := 1) rfl rfl (by omega) (by omega) (fun x3005 hx3005 lx3005 ux3005 => ?_)
    refine ex_al oq_X12_nextOrder_11 gL3003_0 ?_
    refine ex_il oq_X12_nextOrder_12 gL3003_2 ?_
    refine ex_ic oq_X12_nextOrder_13 (m := 1) (by decide) (fun x3006 hx3006 => ?_)
    refine ex_add oq_X12_nextOrder_14 (by omega) (fun x3007 hx3007 => ?_)
    refine ex_ia1 oq_X12_nextOrder_15 hT (k := 145) (d := 84) (j := 2) rfl rfl (by omega) (by omega) (fun x3008 hx3008 lx3008 ux3008 => ?_)
    refine ex_if oq_X12_nextOrder_16 (t := 25) rfl rfl (fun (c3009 : x3005.toInt ≤ x3008.toInt) => ?_) (fun (c3009 : ¬ (x3005.toInt ≤ x3008.toInt)) => ?_)
    · refine ex_il oq_X12_nextOrder_25 gL3003_2 ?_
      refine ex_if0 oq_X12_nextOrder_26 (t := 31) rfl rfl (fun (c3010 : 0 ≤ x3002.toInt) => ?_) (fun (c3010 : ¬ (0 ≤ x3002.toInt)) => ?_)
      · refine ex_il oq_X12_nextOrder_31 gL3003_1 ?_
        refine ex_ic oq_X12_nextOrder_32 (m := 1) (by decide) (fun x3011 hx3011 => ?_)
        refine ex_sub oq_X12_nextOrder_33 (by omega) (fun x3012 hx3012 => ?_)
        refine ex_isA oq_X12_nextOrder_34 (fun L3013 gL3013_3 kL3013 => ?_)
        have gL3013_2 : cv_get L3013 2 = some (cv_i x3002) := kL3013 2 _ (by decide) (fun _ => rfl) gL3003_2
        have gL3013_0 : cv_get L3013 0 = some (cv_r 145) := kL3013 0 _ (by decide) (fun q => absurd q (by decide)) gL3003_0
        have gL3013_1 : cv_get L3013 1 = some (cv_i n) := kL3013 1 _ (by decide) (fun q => absurd q (by decide)) gL3003_1
        refine ex_al oq_X12_nextOrder_35 gL3013_0 ?_
        refine ex_il oq_X12_nextOrder_36 gL3013_3 ?_
        refine ex_ia1 oq_X12_nextOrder_37 hT (k := 145) (d := 84) (j := 2) rfl rfl (by omega) (by omega) (fun x3014 hx3014 lx3014 ux3014 => ?_)
        refine ex_al oq_X12_nextOrder_38 gL3013_0 ?_
        refine ex_il oq_X12_nextOrder_39 gL3013_2 ?_
        refine ex_ia1 oq_X12_nextOrder_40 hT (k := 145) (d := 84) (j := 1) rfl rfl (by omega) (by omega) (fun x3015 hx3015 lx3015 ux3015 => ?_)
        refine ex_if oq_X12_nextOrder_41 (t := 50) rfl rfl (fun (c3016 : x3015.toInt ≤ x3014.toInt) => ?_) (fun (c3016 : ¬ (x3015.toInt ≤ x3014.toInt)) => ?_)
        · refine ex_al oq_X12_nextOrder_50 gL3013_0 ?_
          refine ex_il oq_X12_nextOrder_51 gL3013_2 ?_
          refine ex_ia1 oq_X12_nextOrder_52 hT (k := 145) (d := 84) (j := 1) rfl rfl (by omega) (by omega) (fun x3017 hx3017 lx3017 ux3017 => ?_)
          refine ex_iswA oq_X12_nextOrder_53 (fun L3018 gL3018_4 kL3018 => ?_)
          have gL3018_3 : cv_get L3018 3 = some (cv_i x3012) := kL3018 3 _ (by decide) (fun _ => rfl) gL3013_3
          have gL3018_2 : cv_get L3018 2 = some (cv_i x3002) := kL3018 2 _ (by decide) (fun q => absurd q (by decide)) gL3013_2
          have gL3018_0 : cv_get L3018 0 = some (cv_r 145) := kL3018 0 _ (by decide) (fun q => absurd q (by decide)) gL3013_0
          have gL3018_1 : cv_get L3018 1 = some (cv_i n) := kL3018 1 _ (by decide) (fun q => absurd q (by decide)) gL3013_1
          refine ex_al oq_X12_nextOrder_55 gL3018_0 ?_
          refine ex_il oq_X12_nextOrder_56 gL3018_2 ?_
          refine ex_al oq_X12_nextOrder_57 gL3018_0 ?_
          refine ex_il oq_X12_nextOrder_58 gL3018_3 ?_
          refine ex_ia1 oq_X12_nextOrder_59 hT (k := 145) (d := 84) (j := 2) rfl rfl (by omega) (by omega) (fun x3019 hx3019 lx3019 ux3019 => ?_)
          refine ex_iw1 oq_X12_nextOrder_60 hT (k := 145) (d := 84) (j := 1) rfl rfl (by omega) (by omega) ⟨by omega, by omega⟩ (fun h3020 Th3020 wh3020 => ?_)
          have Fh3020 : cw_Fr cw_Ds cw_sh kk_X12_nextOrder.2.2.2.2.2.1 h h3020 := cw_Fr_tr Fh (cw_Fr_wrr wh3020 (k := 145) (d := 84) rfl rfl (by decide +kernel))
          have eh3020_o0 : ri_at h3020 145 0 = ri_at h 145 0 := ri_ne wh3020 (.inr (by decide))
          have eh3020_o1 : ri_at h3020 145 1 = x3019.toInt := ri_self wh3020
          have eh3020_o2 : ri_at h3020 145 2 = ri_at h 145 2 := ri_ne wh3020 (.inr (by decide))
          have eh3020_o3 : ri_at h3020 145 3 = ri_at h 145 3 := ri_ne wh3020 (.inr (by decide))
          refine ex_al oq_X12_nextOrder_61 gL3018_0 ?_
          refine ex_il oq_X12_nextOrder_62 gL3018_3 ?_
          refine ex_ilw oq_X12_nextOrder_63 gL3018_4 ?_
          refine ex_iw1 oq_X12_nextOrder_65 Th3020 (k := 145) (d := 84) (j := 2) rfl rfl (by omega) (by omega) ⟨by omega, by omega⟩ (fun h3021 Th3021 wh3021 => ?_)
          have Fh3021 : cw_Fr cw_Ds cw_sh kk_X12_nextOrder.2.2.2.2.2.1 h h3021 := cw_Fr_tr Fh3020 (cw_Fr_wrr wh3021 (k := 145) (d := 84) rfl rfl (by decide +kernel))
          have eh3021_o0 : ri_at h3021 145 0 = ri_at h3020 145 0 := ri_ne wh3021 (.inr (by decide))
          have eh3021_o1 : ri_at h3021 145 1 = ri_at h3020 145 1 := ri_ne wh3021 (.inr (by decide))
          have eh3021_o2 : ri_at h3021 145 2 = x3017.toInt := ri_self wh3021
          have eh3021_o3 : ri_at h3021 145 3 = ri_at h3020 145 3 := ri_ne wh3021 (.inr (by decide))
          refine ex_il oq_X12_nextOrder_66 gL3018_2 ?_
          refine ex_ic oq_X12_nextOrder_67 (m := 1) (by decide) (fun x3022 hx3022 => ?_)
          refine ex_add oq_X12_nextOrder_68 (by omega) (fun x3023 hx3023 => ?_)
          refine ex_iswA oq_X12_nextOrder_69 (fun L3024 gL3024_5 kL3024 => ?_)
          have gL3024_4 : cv_get L3024 4 = some (cv_i x3017) := kL3024 4 _ (by decide) (fun _ => rfl) gL3018_4
          have gL3024_3 : cv_get L3024 3 = some (cv_i x3012) := kL3024 3 _ (by decide) (fun q => absurd q (by decide)) gL3018_3
          have gL3024_2 : cv_get L3024 2 = some (cv_i x3002) := kL3024 2 _ (by decide) (fun q => absurd q (by decide)) gL3018_2
          have gL3024_0 : cv_get L3024 0 = some (cv_r 145) := kL3024 0 _ (by decide) (fun q => absurd q (by decide)) gL3018_0
          have gL3024_1 : cv_get L3024 1 = some (cv_i n) := kL3024 1 _ (by decide) (fun q => absurd q (by decide)) gL3018_1
          refine ex_il oq_X12_nextOrder_71 gL3024_1 ?_
          refine ex_ic oq_X12_nextOrder_72 (m := 1) (by decide) (fun x3025 hx3025 => ?_)
          refine ex_sub oq_X12_nextOrder_73 (by omega) (fun x3026 hx3026 => ?_)
          refine ex_iswA oq_X12_nextOrder_74 (fun L3027 gL3027_6 kL3027 => ?_)
          have gL3027_5 : cv_get L3027 5 = some (cv_i x3023) := kL3027 5 _ (by decide) (fun _ => rfl) gL3024_5
          have gL3027_4 : cv_get L3027 4 = some (cv_i x3017) := kL3027 4 _ (by decide) (fun q => absurd q (by decide)) gL3024_4
          have gL3027_3 : cv_get L3027 3 = some (cv_i x3012) := kL3027 3 _ (by decide) (fun q => absurd q (by decide)) gL3024_3
          have gL3027_2 : cv_get L3027 2 = some (cv_i x3002) := kL3027 2 _ (by decide) (fun q => absurd q (by decide)) gL3024_2
          have gL3027_0 : cv_get L3027 0 = some (cv_r 145) := kL3027 0 _ (by decide) (fun q => absurd q (by decide)) gL3024_0
          have gL3027_1 : cv_get L3027 1 = some (cv_i n) := kL3027 1 _ (by decide) (fun q => absurd q (by decide)) gL3024_1
          refine ex_ilw oq_X12_nextOrder_76 gL3027_5 ?_
          refine ex_ilw oq_X12_nextOrder_78 gL3027_6 ?_
          refine ex_if oq_X12_nextOrder_80 (t := 112) rfl rfl (fun (c3028 : x3026.toInt ≤ x3023.toInt) => ?_) (fun (c3028 : ¬ (x3026.toInt ≤ x3023.toInt)) => ?_)
          · refine ex_ic oq_X12_nextOrder_112 (m := 1) (by decide) (fun x3029 hx3029 => ?_)
            refine ex_retb oq_X12_nextOrder_113 rfl (by omega) (by omega) (hQ x3029 h3021 Th3021 Fh3021 (by omega) (by omega) (fun _ => ⟨⟨?_, ?_⟩, ?_⟩))
            · intro i hi hin
              match i, hi, hin with
              | 0, _, hin => omega
              | 1, _, hin => omega
              | 2, _, hin => omega
              | 3, _, hin => omega
            · intro i j hi hj hin hjn hij
              match i, hi, hin, j, hj, hjn, hij with
              | 0, _, hin, 0, _, hjn, hij => omega
              | 0, _, hin, 1, _, hjn, hij => omega
              | 0, _, hin, 2, _, hjn, hij => omega
              | 0, _, hin, 3, _, hjn, hij => omega
              | 1, _, hin, 0, _, hjn, hij => omega
              | 1, _, hin, 1, _, hjn, hij => omega
              | 1, _, hin, 2, _, hjn, hij => omega
              | 1, _, hin, 3, _, hjn, hij => omega
              | 2, _, hin, 0, _, hjn, hij => omega
              | 2, _, hin, 1, _, hjn, hij => omega
              | 2, _, hin, 2, _, hjn, hij => omega
              | 2, _, hin, 3, _, hjn, hij => omega
              | 3, _, hin, 0, _, hjn, hij => omega
              | 3, _, hin, 1, _, hjn, hij => omega
              | 3, _, hin, 2, _, hjn, hij => omega
              | 3, _, hin, 3, _, hjn, hij => omega
            · unfold od_r; omega
          · exfalso; omega
        · exfalso; omega
      · exfalso; omega
    · refine ex_incA oq_X12_nextOrder_19 (v := x3002) (m := (-1)) gL3003_2 (by decide) (by omega) (fun L3031 x3030 hx3030 gL3031_2 kL3031 => ?_)
      have gL3031_0 : cv_get L3031 0 = some (cv_r 145) := kL3031 0 _ (by decide) (fun q => absurd q (by decide)) gL3003_0
      have gL3031_1 : cv_get L3031 1 = some (cv_i n) := kL3031 1 _ (by decide) (fun _ => rfl) gL3003_1
      refine ex_go oq_X12_nextOrder_22 (t := 4) rfl rfl ?_
      refine ex_il oq_X12_nextOrder_4 gL3031_2 ?_
      refine ex_if0 oq_X12_nextOrder_5 (t := 25) rfl rfl (fun (c3032 : x3030.toInt < 0) => ?_) (fun (c3032 : ¬ (x3030.toInt < 0)) => ?_)
      · exfalso; omega
      · refine ex_al oq_X12_nextOrder_8 gL3031_0 ?_
        refine ex_il oq_X12_nextOrder_9 gL3031_2 ?_
        refine ex_ia1 oq_X12_nextOrder_10 hT (k := 145) (d := 84) (j := 0) rfl rfl (by omega) (by omega) (fun x3033 hx3033 lx3033 ux3033 => ?_)
        refine ex_al oq_X12_nextOrder_11 gL3031_0 ?_
        refine ex_il oq_X12_nextOrder_12 gL3031_2 ?_
        refine ex_ic oq_X12_nextOrder_13 (m := 1) (by decide) (fun x3034 hx3034 => ?_)
        refine ex_add oq_X12_nextOrder_14 (by omega) (fun x3035 hx3035 => ?_)
        refine ex_ia1 oq_X12_nextOrder_15 hT (k := 145) (d := 84) (j := 1) rfl rfl (by omega) (by omega) (fun x3036 hx3036 lx3036 ux3036 => ?_)
        refine ex_if oq_X12_nextOrder_16 (t := 25) rfl rfl (fun (c3037 : x3033.toInt ≤ x3036.toInt) => ?_) (fun (c3037 : ¬ (x3033.toInt ≤ x3036.toInt)) => ?_)
        · refine ex_il oq_X12_nextOrder_25 gL3031_2 ?_
          refine ex_if0 oq_X12_nextOrder_26 (t := 31) rfl rfl (fun (c3038 : 0 ≤ x3030.toInt) => ?_) (fun (c3038 : ¬ (0 ≤ x3030.toInt)) => ?_)
          · refine ex_il oq_X12_nextOrder_31 gL3031_1 ?_
            refine ex_ic oq_X12_nextOrder_32 (m := 1) (by decide) (fun x3039 hx3039 => ?_)
            refine ex_sub oq_X12_nextOrder_33 (by omega) (fun x3040 hx3040 => ?_)
            refine ex_isA oq_X12_nextOrder_34 (fun L3041 gL3041_3 kL3041 => ?_)
            have gL3041_2 : cv_get L3041 2 = some (cv_i x3030) := kL3041 2 _ (by decide) (fun _ => rfl) gL3031_2
            have gL3041_0 : cv_get L3041 0 = some (cv_r 145) := kL3041 0 _ (by decide) (fun q => absurd q (by decide)) gL3031_0
            have gL3041_1 : cv_get L3041 1 = some (cv_i n) := kL3041 1 _ (by decide) (fun q => absurd q (by decide)) gL3031_1
            refine ex_al oq_X12_nextOrder_35 gL3041_0 ?_
            refine ex_il oq_X12_nextOrder_36 gL3041_3 ?_
            refine ex_ia1 oq_X12_nextOrder_37 hT (k := 145) (d := 84) (j := 2) rfl rfl (by omega) (by omega) (fun x3042 hx3042 lx3042 ux3042 => ?_)
            refine ex_al oq_X12_nextOrder_38 gL3041_0 ?_
            refine ex_il oq_X12_nextOrder_39 gL3041_2 ?_
            refine ex_ia1 oq_X12_nextOrder_40 hT (k := 145) (d := 84) (j := 0) rfl rfl (by omega) (by omega) (fun x3043 hx3043 lx3043 ux3043 => ?_)
            refine ex_if oq_X12_nextOrder_41 (t := 50) rfl rfl (fun (c3044 : x3043.toInt ≤ x3042.toInt) => ?_) (fun (c3044 : ¬ (x3043.toInt ≤ x3042.toInt)) => ?_)
            · refine ex_al oq_X12_nextOrder_50 gL3041_0 ?_
              refine ex_il oq_X12_nextOrder_51 gL3041_2 ?_
              refine ex_ia1 oq_X12_nextOrder_52 hT (k := 145) (d := 84) (j := 0) rfl rfl (by omega) (by omega) (fun x3045 hx3045 lx3045 ux3045 => ?_)
              refine ex_iswA oq_X12_nextOrder_53 (fun L3046 gL3046_4 kL3046 => ?_)
              have gL3046_3 : cv_get L3046 3 = some (cv_i x3040) := kL3046 3 _ (by decide) (fun _ => rfl) gL3041_3
              have gL3046_2 : cv_get L3046 2 = some (cv_i x3030) := kL3046 2 _ (by decide) (fun q => absurd q (by decide)) gL3041_2
              have gL3046_0 : cv_get L3046 0 = some (cv_r 145) := kL3046 0 _ (by decide) (fun q => absurd q (by decide)) gL3041_0
              have gL3046_1 : cv_get L3046 1 = some (cv_i n) := kL3046 1 _ (by decide) (fun q => absurd q (by decide)) gL3041_1
              refine ex_al oq_X12_nextOrder_55 gL3046_0 ?_
              refine ex_il oq_X12_nextOrder_56 gL3046_2 ?_
              refine ex_al oq_X12_nextOrder_57 gL3046_0 ?_
              refine ex_il oq_X12_nextOrder_58 gL3046_3 ?_
              refine ex_ia1 oq_X12_nextOrder_59 hT (k := 145) (d := 84) (j := 2) rfl rfl (by omega) (by omega) (fun x3047 hx3047 lx3047 ux3047 => ?_)
              refine ex_iw1 oq_X12_nextOrder_60 hT (k := 145) (d := 84) (j := 0) rfl rfl (by omega) (by omega) ⟨by omega, by omega⟩ (fun h3048 Th3048 wh3048 => ?_)
              have Fh3048 : cw_Fr cw_Ds cw_sh kk_X12_nextOrder.2.2.2.2.2.1 h h3048 := cw_Fr_tr Fh (cw_Fr_wrr wh3048 (k := 145) (d := 84) rfl rfl (by decide +kernel))
              have eh3048_o0 : ri_at h3048 145 0 = x3047.toInt := ri_self wh3048
              have eh3048_o1 : ri_at h3048 145 1 = ri_at h 145 1 := ri_ne wh3048 (.inr (by decide))
              have eh3048_o2 : ri_at h3048 145 2 = ri_at h 145 2 := ri_ne wh3048 (.inr (by decide))
              have eh3048_o3 : ri_at h3048 145 3 = ri_at h 145 3 := ri_ne wh3048 (.inr (by decide))
              refine ex_al oq_X12_nextOrder_61 gL3046_0 ?_
              refine ex_il oq_X12_nextOrder_62 gL3046_3 ?_
              refine ex_ilw oq_X12_nextOrder_63 gL3046_4 ?_
              refine ex_iw1 oq_X12_nextOrder_65 Th3048 (k := 145) (d := 84) (j := 2) rfl rfl (by omega) (by omega) ⟨by omega, by omega⟩ (fun h3049 Th3049 wh3049 => ?_)
              have Fh3049 : cw_Fr cw_Ds cw_sh kk_X12_nextOrder.2.2.2.2.2.1 h h3049 := cw_Fr_tr Fh3048 (cw_Fr_wrr wh3049 (k := 145) (d := 84) rfl rfl (by decide +kernel))
              have eh3049_o0 : ri_at h3049 145 0 = ri_at h3048 145 0 := ri_ne wh3049 (.inr (by decide))
              have eh3049_o1 : ri_at h3049 145 1 = ri_at h3048 145 1 := ri_ne wh3049 (.inr (by decide))
              have eh3049_o2 : ri_at h3049 145 2 = x3045.toInt := ri_self wh3049
              have eh3049_o3 : ri_at h3049 145 3 = ri_at h3048 145 3 := ri_ne wh3049 (.inr (by decide))
              refine ex_il oq_X12_nextOrder_66 gL3046_2 ?_
              refine ex_ic oq_X12_nextOrder_67 (m := 1) (by decide) (fun x3050 hx3050 => ?_)
              refine ex_add oq_X12_nextOrder_68 (by omega) (fun x3051 hx3051 => ?_)
              refine ex_iswA oq_X12_nextOrder_69 (fun L3052 gL3052_5 kL3052 => ?_)
              have gL3052_4 : cv_get L3052 4 = some (cv_i x3045) := kL3052 4 _ (by decide) (fun _ => rfl) gL3046_4
              have gL3052_3 : cv_get L3052 3 = some (cv_i x3040) := kL3052 3 _ (by decide) (fun q => absurd q (by decide)) gL3046_3
              have gL3052_2 : cv_get L3052 2 = some (cv_i x3030) := kL3052 2 _ (by decide) (fun q => absurd q (by decide)) gL3046_2
              have gL3052_0 : cv_get L3052 0 = some (cv_r 145) := kL3052 0 _ (by decide) (fun q => absurd q (by decide)) gL3046_0
              have gL3052_1 : cv_get L3052 1 = some (cv_i n) := kL3052 1 _ (by decide) (fun q => absurd q (by decide)) gL3046_1
              refine ex_il oq_X12_nextOrder_71 gL3052_1 ?_
              refine ex_ic oq_X12_nextOrder_72 (m := 1) (by decide) (fun x3053 hx3053 => ?_)
              refine ex_sub oq_X12_nextOrder_73 (by omega) (fun x3054 hx3054 => ?_)
              refine ex_iswA oq_X12_nextOrder_74 (fun L3055 gL3055_6 kL3055 => ?_)
              have gL3055_5 : cv_get L3055 5 = some (cv_i x3051) := kL3055 5 _ (by decide) (fun _ => rfl) gL3052_5
              have gL3055_4 : cv_get L3055 4 = some (cv_i x3045) := kL3055 4 _ (by decide) (fun q => absurd q (by decide)) gL3052_4
              have gL3055_3 : cv_get L3055 3 = some (cv_i x3040) := kL3055 3 _ (by decide) (fun q => absurd q (by decide)) gL3052_3
              have gL3055_2 : cv_get L3055 2 = some (cv_i x3030) := kL3055 2 _ (by decide) (fun q => absurd q (by decide)) gL3052_2
              have gL3055_0 : cv_get L3055 0 = some (cv_r 145) := kL3055 0 _ (by decide) (fun q => absurd q (by decide)) gL3052_0
              have gL3055_1 : cv_get L3055 1 = some (cv_i n) := kL3055 1 _ (by decide) (fun q => absurd q (by decide)) gL3052_1
              refine ex_ilw oq_X12_nextOrder_76 gL3055_5 ?_
              refine ex_ilw oq_X12_nextOrder_78 gL3055_6 ?_
              refine ex_if oq_X12_nextOrder_80 (t := 112) rfl rfl (fun (c3056 : x3054.toInt ≤ x3051.toInt) => ?_) (fun (c3056 : ¬ (x3054.toInt ≤ x3051.toInt)) => ?_)
              · exfalso; omega
              · refine ex_al oq_X12_nextOrder_83 gL3055_0 ?_
                refine ex_ilw oq_X12_nextOrder_84 gL3055_5 ?_
                refine ex_ia1 oq_X12_nextOrder_86 Th3049 (k := 145) (d := 84) (j := 1) rfl rfl (by omega) (by omega) (fun x3057 hx3057 lx3057 ux3057 => ?_)
                refine ex_iswA oq_X12_nextOrder_87 (fun L3058 gL3058_4 kL3058 => ?_)
                have gL3058_6 : cv_get L3058 6 = some (cv_i x3054) := kL3058 6 _ (by decide) (fun q => absurd q (by decide)) gL3055_6
                have gL3058_5 : cv_get L3058 5 = some (cv_i x3051) := kL3058 5 _ (by decide) (fun q => absurd q (by decide)) gL3055_5
                have gL3058_3 : cv_get L3058 3 = some (cv_i x3040) := kL3058 3 _ (by decide) (fun _ => rfl) gL3055_3
                have gL3058_2 : cv_get L3058 2 = some (cv_i x3030) := kL3058 2 _ (by decide) (fun q => absurd q (by decide)) gL3055_2
                have gL3058_0 : cv_get L3058 0 = some (cv_r 145) := kL3058 0 _ (by decide) (fun q => absurd q (by decide)) gL3055_0
                have gL3058_1 : cv_get L3058 1 = some (cv_i n) := kL3058 1 _ (by decide) (fun q => absurd q (by decide)) gL3055_1
                refine ex_al oq_X12_nextOrder_89 gL3058_0 ?_
                refine ex_ilw oq_X12_nextOrder_90 gL3058_5 ?_
                refine ex_al oq_X12_nextOrder_92 gL3058_0 ?_
                refine ex_ilw oq_X12_nextOrder_93 gL3058_6 ?_
                refine ex_ia1 oq_X12_nextOrder_95 Th3049 (k := 145) (d := 84) (j := 2) rfl rfl (by omega) (by omega) (fun x3059 hx3059 lx3059 ux3059 => ?_)
                refine ex_iw1 oq_X12_nextOrder_96 Th3049 (k := 145) (d := 84) (j := 1) rfl rfl (by omega) (by omega) ⟨by omega, by omega⟩ (fun h3060 Th3060 wh3060 => ?_)
                have Fh3060 : cw_Fr cw_Ds cw_sh kk_X12_nextOrder.2.2.2.2.2.1 h h3060 := cw_Fr_tr Fh3049 (cw_Fr_wrr wh3060 (k := 145) (d := 84) rfl rfl (by decide +kernel))
                have eh3060_o0 : ri_at h3060 145 0 = ri_at h3049 145 0 := ri_ne wh3060 (.inr (by decide))
                have eh3060_o1 : ri_at h3060 145 1 = x3059.toInt := ri_self wh3060
                have eh3060_o2 : ri_at h3060 145 2 = ri_at h3049 145 2 := ri_ne wh3060 (.inr (by decide))
                have eh3060_o3 : ri_at h3060 145 3 = ri_at h3049 145 3 := ri_ne wh3060 (.inr (by decide))
                refine ex_al oq_X12_nextOrder_97 gL3058_0 ?_
                refine ex_ilw oq_X12_nextOrder_98 gL3058_6 ?_
                refine ex_ilw oq_X12_nextOrder_100 gL3058_4 ?_
                refine ex_iw1 oq_X12_nextOrder_102 Th3060 (k := 145) (d := 84) (j := 2) rfl rfl (by omega) (by omega) ⟨by omega, by omega⟩ (fun h3061 Th3061 wh3061 => ?_)
                have Fh3061 : cw_Fr cw_Ds cw_sh kk_X12_nextOrder.2.2.2.2.2.1 h h3061 := cw_Fr_tr Fh3060 (cw_Fr_wrr wh3061 (k := 145) (d := 84) rfl rfl (by decide +kernel))
                have eh3061_o0 : ri_at h3061 145 0 = ri_at h3060 145 0 := ri_ne wh3061 (.inr (by decide))
                have eh3061_o1 : ri_at h3061 145 1 = ri_at h3060 145 1 := ri_ne wh3061 (.inr (by decide))
                have eh3061_o2 : ri_at h3061 145 2 = x3057.toInt := ri_self wh3061
                have eh3061_o3 : ri_at h3061 145 3 = ri_at h3060 145 3 := ri_ne wh3061 (.inr (by decide))
                refine ex_incA oq_X12_nextOrder_103 (v := x3051) (m := 1) gL3058_5 (by decide) (by omega) (fun L3063 x3062 hx3062 gL3063_5 kL3063 => ?_)
                have gL3063_4 : cv_get L3063 4 = some (cv_i x3057) := kL3063 4 _ (by decide) (fun _ => rfl) gL3058_4
                have gL3063_6 : cv_get L3063 6 = some (cv_i x3054) := kL3063 6 _ (by decide) (fun q => absurd q (by decide)) gL3058_6
                have gL3063_3 : cv_get L3063 3 = some (cv_i x3040) := kL3063 3 _ (by decide) (fun q => absurd q (by decide)) gL3058_3
                have gL3063_2 : cv_get L3063 2 = some (cv_i x3030) := kL3063 2 _ (by decide) (fun q => absurd q (by decide)) gL3058_2
                have gL3063_0 : cv_get L3063 0 = some (cv_r 145) := kL3063 0 _ (by decide) (fun q => absurd q (by decide)) gL3058_0
                have gL3063_1 : cv_get L3063 1 = some (cv_i n) := kL3063 1 _ (by decide) (fun q => absurd q (by decide)) gL3058_1
                refine ex_incA oq_X12_nextOrder_106 (v := x3054) (m := (-1)) gL3063_6 (by decide) (by omega) (fun L3065 x3064 hx3064 gL3065_6 kL3065 => ?_)
                have gL3065_5 : cv_get L3065 5 = some (cv_i x3062) := kL3065 5 _ (by decide) (fun _ => rfl) gL3063_5
                have gL3065_4 : cv_get L3065 4 = some (cv_i x3057) := kL3065 4 _ (by decide) (fun q => absurd q (by decide)) gL3063_4
                have gL3065_3 : cv_get L3065 3 = some (cv_i x3040) := kL3065 3 _ (by decide) (fun q => absurd q (by decide)) gL3063_3
                have gL3065_2 : cv_get L3065 2 = some (cv_i x3030) := kL3065 2 _ (by decide) (fun q => absurd q (by decide)) gL3063_2
                have gL3065_0 : cv_get L3065 0 = some (cv_r 145) := kL3065 0 _ (by decide) (fun q => absurd q (by decide)) gL3063_0
                have gL3065_1 : cv_get L3065 1 = some (cv_i n) := kL3065 1 _ (by decide) (fun q => absurd q (by decide)) gL3063_1
                refine ex_go oq_X12_nextOrder_109 (t := 76) rfl rfl ?_
                refine ex_ilw oq_X12_nextOrder_76 gL3065_5 ?_
                refine ex_ilw oq_X12_nextOrder_78 gL3065_6 ?_
                refine ex_if oq_X12_nextOrder_80 (t := 112) rfl rfl (fun (c3066 : x3064.toInt ≤ x3062.toInt) => ?_) (fun (c3066 : ¬ (x3064.toInt ≤ x3062.toInt)) => ?_)
                · refine ex_ic oq_X12_nextOrder_112 (m := 1) (by decide) (fun x3067 hx3067 => ?_)
                  refine ex_retb oq_X12_nextOrder_113 rfl (by omega) (by omega) (hQ x3067 h3061 Th3061 Fh3061 (by omega) (by omega) (fun _ => ⟨⟨?_, ?_⟩, ?_⟩))
                  · intro i hi hin
                    match i, hi, hin with
                    | 0, _, hin => omega
                    | 1, _, hin => omega
                    | 2, _, hin => omega
                    | 3, _, hin => omega
                  · intro i j hi hj hin hjn hij
                    match i, hi, hin, j, hj, hjn, hij with
                    | 0, _, hin, 0, _, hjn, hij => omega
                    | 0, _, hin, 1, _, hjn, hij => omega
                    | 0, _, hin, 2, _, hjn, hij => omega
                    | 0, _, hin, 3, _, hjn, hij => omega
                    | 1, _, hin, 0, _, hjn, hij => omega
                    | 1, _, hin, 1, _, hjn, hij => omega
                    | 1, _, hin, 2, _, hjn, hij => omega
                    | 1, _, hin, 3, _, hjn, hij => omega
                    | 2, _, hin, 0, _, hjn, hij => omega
                    | 2, _, hin, 1, _, hjn, hij => omega
                    | 2, _, hin, 2, _, hjn, hij => omega
                    | 2, _, hin, 3, _, hjn, hij => omega
                    | 3, _, hin, 0, _, hjn, hij => omega
                    | 3, _, hin, 1, _, hjn, hij => omega
                    | 3, _, hin, 2, _, hjn, hij => omega
                    | 3, _, hin, 3, _, hjn, hij => omega
                  · unfold od_r; omega
                · exfalso; omega
            · refine ex_incA oq_X12_nextOrder_44 (v := x3040) (m := (-1)) gL3041_3 (by decide) (by omega) (fun L3069 x3068 hx3068 gL3069_3 kL3069 => ?_)
              have gL3069_2 : cv_get L3069 2 = some (cv_i x3030) := kL3069 2 _ (by decide) (fun _ => rfl) gL3041_2
              have gL3069_0 : cv_get L3069 0 = some (cv_r 145) := kL3069 0 _ (by decide) (fun q => absurd q (by decide)) gL3041_0
              have gL3069_1 : cv_get L3069 1 = some (cv_i n) := kL3069 1 _ (by decide) (fun q => absurd q (by decide)) gL3041_1
              refine ex_go oq_X12_nextOrder_47 (t := 35) rfl rfl ?_
              refine ex_al oq_X12_nextOrder_35 gL3069_0 ?_
              refine ex_il oq_X12_nextOrder_36 gL3069_3 ?_
              refine ex_ia1 oq_X12_nextOrder_37 hT (k := 145) (d := 84) (j := 1) rfl rfl (by omega) (by omega) (fun x3070 hx3070 lx3070 ux3070 => ?_)
              refine ex_al oq_X12_nextOrder_38 gL3069_0 ?_
              refine ex_il oq_X12_nextOrder_39 gL3069_2 ?_
              refine ex_ia1 oq_X12_nextOrder_40 hT (k := 145) (d := 84) (j := 0) rfl rfl (by omega) (by omega) (fun x3071 hx3071 lx3071 ux3071 => ?_)
              refine ex_if oq_X12_nextOrder_41 (t := 50) rfl rfl (fun (c3072 : x3071.toInt ≤ x3070.toInt) => ?_) (fun (c3072 : ¬ (x3071.toInt ≤ x3070.toInt)) => ?_)
              · refine ex_al oq_X12_nextOrder_50 gL3069_0 ?_
                refine ex_il oq_X12_nextOrder_51 gL3069_2 ?_
                refine ex_ia1 oq_X12_nextOrder_52 hT (k := 145) (d := 84) (j := 0) rfl rfl (by omega) (by omega) (fun x3073 hx3073 lx3073 ux3073 => ?_)
                refine ex_iswA oq_X12_nextOrder_53 (fun L3074 gL3074_4 kL3074 => ?_)
                have gL3074_3 : cv_get L3074 3 = some (cv_i x3068) := kL3074 3 _ (by decide) (fun _ => rfl) gL3069_3
                have gL3074_2 : cv_get L3074 2 = some (cv_i x3030) := kL3074 2 _ (by decide) (fun q => absurd q (by decide)) gL3069_2
                have gL3074_0 : cv_get L3074 0 = some (cv_r 145) := kL3074 0 _ (by decide) (fun q => absurd q (by decide)) gL3069_0
                have gL3074_1 : cv_get L3074 1 = some (cv_i n) := kL3074 1 _ (by decide) (fun q => absurd q (by decide)) gL3069_1
                refine ex_al oq_X12_nextOrder_55 gL3074_0 ?_
                refine ex_il oq_X12_nextOrder_56 gL3074_2 ?_
                refine ex_al oq_X12_nextOrder_57 gL3074_0 ?_
                refine ex_il oq_X12_nextOrder_58 gL3074_3 ?_
                refine ex_ia1 oq_X12_nextOrder_59 hT (k := 145) (d := 84) (j := 1) rfl rfl (by omega) (by omega) (fun x3075 hx3075 lx3075 ux3075 => ?_)
                refine ex_iw1 oq_X12_nextOrder_60 hT (k := 145) (d := 84) (j := 0) rfl rfl (by omega) (by omega) ⟨by omega, by omega⟩ (fun h3076 Th3076 wh3076 => ?_)
                have Fh3076 : cw_Fr cw_Ds cw_sh kk_X12_nextOrder.2.2.2.2.2.1 h h3076 := cw_Fr_tr Fh (cw_Fr_wrr wh3076 (k := 145) (d := 84) rfl rfl (by decide +kernel))
                have eh3076_o0 : ri_at h3076 145 0 = x3075.toInt := ri_self wh3076
                have eh3076_o1 : ri_at h3076 145 1 = ri_at h 145 1 := ri_ne wh3076 (.inr (by decide))
                have eh3076_o2 : ri_at h3076 145 2 = ri_at h 145 2 := ri_ne wh3076 (.inr (by decide))
                have eh3076_o3 : ri_at h3076 145 3 = ri_at h 145 3 := ri_ne wh3076 (.inr (by decide))
                refine ex_al oq_X12_nextOrder_61 gL3074_0 ?_
                refine ex_il oq_X12_nextOrder_62 gL3074_3 ?_
                refine ex_ilw oq_X12_nextOrder_63 gL3074_4 ?_
                refine ex_iw1 oq_X12_nextOrder_65 Th3076 (k := 145) (d := 84) (j := 1) rfl rfl (by omega) (by omega) ⟨by omega, by omega⟩ (fun h3077 Th3077 wh3077 => ?_)
                have Fh3077 : cw_Fr cw_Ds cw_sh kk_X12_nextOrder.2.2.2.2.2.1 h h3077 := cw_Fr_tr Fh3076 (cw_Fr_wrr wh3077 (k := 145) (d := 84) rfl rfl (by decide +kernel))
                have eh3077_o0 : ri_at h3077 145 0 = ri_at h3076 145 0 := ri_ne wh3077 (.inr (by decide))
                have eh3077_o1 : ri_at h3077 145 1 = x3073.toInt := ri_self wh3077
                have eh3077_o2 : ri_at h3077 145 2 = ri_at h3076 145 2 := ri_ne wh3077 (.inr (by decide))
                have eh3077_o3 : ri_at h3077 145 3 = ri_at h3076 145 3 := ri_ne wh3077 (.inr (by decide))
                refine ex_il oq_X12_nextOrder_66 gL3074_2 ?_
                refine ex_ic oq_X12_nextOrder_67 (m := 1) (by decide) (fun x3078 hx3078 => ?_)
                refine ex_add oq_X12_nextOrder_68 (by omega) (fun x3079 hx3079 => ?_)
                refine ex_iswA oq_X12_nextOrder_69 (fun L3080 gL3080_5 kL3080 => ?_)
                have gL3080_4 : cv_get L3080 4 = some (cv_i x3073) := kL3080 4 _ (by decide) (fun _ => rfl) gL3074_4
                have gL3080_3 : cv_get L3080 3 = some (cv_i x3068) := kL3080 3 _ (by decide) (fun q => absurd q (by decide)) gL3074_3
                have gL3080_2 : cv_get L3080 2 = some (cv_i x3030) := kL3080 2 _ (by decide) (fun q => absurd q (by decide)) gL3074_2
                have gL3080_0 : cv_get L3080 0 = some (cv_r 145) := kL3080 0 _ (by decide) (fun q => absurd q (by decide)) gL3074_0
                have gL3080_1 : cv_get L3080 1 = some (cv_i n) := kL3080 1 _ (by decide) (fun q => absurd q (by decide)) gL3074_1
                refine ex_il oq_X12_nextOrder_71 gL3080_1 ?_
                refine ex_ic oq_X12_nextOrder_72 (m := 1) (by decide) (fun x3081 hx3081 => ?_)
                refine ex_sub oq_X12_nextOrder_73 (by omega) (fun x3082 hx3082 => ?_)
                refine ex_iswA oq_X12_nextOrder_74 (fun L3083 gL3083_6 kL3083 => ?_)
                have gL3083_5 : cv_get L3083 5 = some (cv_i x3079) := kL3083 5 _ (by decide) (fun _ => rfl) gL3080_5
                have gL3083_4 : cv_get L3083 4 = some (cv_i x3073) := kL3083 4 _ (by decide) (fun q => absurd q (by decide)) gL3080_4
                have gL3083_3 : cv_get L3083 3 = some (cv_i x3068) := kL3083 3 _ (by decide) (fun q => absurd q (by decide)) gL3080_3
                have gL3083_2 : cv_get L3083 2 = some (cv_i x3030) := kL3083 2 _ (by decide) (fun q => absurd q (by decide)) gL3080_2
                have gL3083_0 : cv_get L3083 0 = some (cv_r 145) := kL3083 0 _ (by decide) (fun q => absurd q (by decide)) gL3080_0
                have gL3083_1 : cv_get L3083 1 = some (cv_i n) := kL3083 1 _ (by decide) (fun q => absurd q (by decide)) gL3080_1
                refine ex_ilw oq_X12_nextOrder_76 gL3083_5 ?_
                refine ex_ilw oq_X12_nextOrder_78 gL3083_6 ?_
                refine ex_if oq_X12_nextOrder_80 (t := 112) rfl rfl (fun (c3084 : x3082.toInt ≤ x3079.toInt) => ?_) (fun (c3084 : ¬ (x3082.toInt ≤ x3079.toInt)) => ?_)
                · exfalso; omega
                · refine ex_al oq_X12_nextOrder_83 gL3083_0 ?_
                  refine ex_ilw oq_X12_nextOrder_84 gL3083_5 ?_
                  refine ex_ia1 oq_X12_nextOrder_86 Th3077 (k := 145) (d := 84) (j := 1) rfl rfl (by omega) (by omega) (fun x3085 hx3085 lx3085 ux3085 => ?_)
                  refine ex_iswA oq_X12_nextOrder_87 (fun L3086 gL3086_4 kL3086 => ?_)
                  have gL3086_6 : cv_get L3086 6 = some (cv_i x3082) := kL3086 6 _ (by decide) (fun q => absurd q (by decide)) gL3083_6
                  have gL3086_5 : cv_get L3086 5 = some (cv_i x3079) := kL3086 5 _ (by decide) (fun q => absurd q (by decide)) gL3083_5
                  have gL3086_3 : cv_get L3086 3 = some (cv_i x3068) := kL3086 3 _ (by decide) (fun _ => rfl) gL3083_3
                  have gL3086_2 : cv_get L3086 2 = some (cv_i x3030) := kL3086 2 _ (by decide) (fun q => absurd q (by decide)) gL3083_2
                  have gL3086_0 : cv_get L3086 0 = some (cv_r 145) := kL3086 0 _ (by decide) (fun q => absurd q (by decide)) gL3083_0
                  have gL3086_1 : cv_get L3086 1 = some (cv_i n) := kL3086 1 _ (by decide) (fun q => absurd q (by decide)) gL3083_1
                  refine ex_al oq_X12_nextOrder_89 gL3086_0 ?_
                  refine ex_ilw oq_X12_nextOrder_90 gL3086_5 ?_
                  refine ex_al oq_X12_nextOrder_92 gL3086_0 ?_
                  refine ex_ilw oq_X12_nextOrder_93 gL3086_6 ?_
                  refine ex_ia1 oq_X12_nextOrder_95 Th3077 (k := 145) (d := 84) (j := 2) rfl rfl (by omega) (by omega) (fun x3087 hx3087 lx3087 ux3087 => ?_)
                  refine ex_iw1 oq_X12_nextOrder_96 Th3077 (k := 145) (d := 84) (j := 1) rfl rfl (by omega) (by omega) ⟨by omega, by omega⟩ (fun h3088 Th3088 wh3088 => ?_)
                  have Fh3088 : cw_Fr cw_Ds cw_sh kk_X12_nextOrder.2.2.2.2.2.1 h h3088 := cw_Fr_tr Fh3077 (cw_Fr_wrr wh3088 (k := 145) (d := 84) rfl rfl (by decide +kernel))
                  have eh3088_o0 : ri_at h3088 145 0 = ri_at h3077 145 0 := ri_ne wh3088 (.inr (by decide))
                  have eh3088_o1 : ri_at h3088 145 1 = x3087.toInt := ri_self wh3088
                  have eh3088_o2 : ri_at h3088 145 2 = ri_at h3077 145 2 := ri_ne wh3088 (.inr (by decide))
                  have eh3088_o3 : ri_at h3088 145 3 = ri_at h3077 145 3 := ri_ne wh3088 (.inr (by decide))
                  refine ex_al oq_X12_nextOrder_97 gL3086_0 ?_
                  refine ex_ilw oq_X12_nextOrder_98 gL3086_6 ?_
                  refine ex_ilw oq_X12_nextOrder_100 gL3086_4 ?_
                  refine ex_iw1 oq_X12_nextOrder_102 Th3088 (k := 145) (d := 84) (j := 2) rfl rfl (by omega) (by omega) ⟨by omega, by omega⟩ (fun h3089 Th3089 wh3089 => ?_)
                  have Fh3089 : cw_Fr cw_Ds cw_sh kk_X12_nextOrder.2.2.2.2.2.1 h h3089 := cw_Fr_tr Fh3088 (cw_Fr_wrr wh3089 (k := 145) (d := 84) rfl rfl (by decide +kernel))
                  have eh3089_o0 : ri_at h3089 145 0 = ri_at h3088 145 0 := ri_ne wh3089 (.inr (by decide))
                  have eh3089_o1 : ri_at h3089 145 1 = ri_at h3088 145 1 := ri_ne wh3089 (.inr (by decide))
                  have eh3089_o2 : ri_at h3089 145 2 = x3085.toInt := ri_self wh3089
                  have eh3089_o3 : ri_at h3089 145 3 = ri_at h3088 145 3 := ri_ne wh3089 (.inr (by decide))
                  refine ex_incA oq_X12_nextOrder_103 (v := x3079) (m := 1) gL3086_5 (by decide) (by omega) (fun L3091 x3090 hx3090 gL3091_5 kL3091 => ?_)
                  have gL3091_4 : cv_get L3091 4 = some (cv_i x3085) := kL3091 4 _ (by decide) (fun _ => rfl) gL3086_4
                  have gL3091_6 : cv_get L3091 6 = some (cv_i x3082) := kL3091 6 _ (by decide) (fun q => absurd q (by decide)) gL3086_6
                  have gL3091_3 : cv_get L3091 3 = some (cv_i x3068) := kL3091 3 _ (by decide) (fun q => absurd q (by decide)) gL3086_3
                  have gL3091_2 : cv_get L3091 2 = some (cv_i x3030) := kL3091 2 _ (by decide) (fun q => absurd q (by decide)) gL3086_2
                  have gL3091_0 : cv_get L3091 0 = some (cv_r 145) := kL3091 0 _ (by decide) (fun q => absurd q (by decide)) gL3086_0
                  have gL3091_1 : cv_get L3091 1 = some (cv_i n) := kL3091 1 _ (by decide) (fun q => absurd q (by decide)) gL3086_1
                  refine ex_incA oq_X12_nextOrder_106 (v := x3082) (m := (-1)) gL3091_6 (by decide) (by omega) (fun L3093 x3092 hx3092 gL3093_6 kL3093 => ?_)
                  have gL3093_5 : cv_get L3093 5 = some (cv_i x3090) := kL3093 5 _ (by decide) (fun _ => rfl) gL3091_5
                  have gL3093_4 : cv_get L3093 4 = some (cv_i x3085) := kL3093 4 _ (by decide) (fun q => absurd q (by decide)) gL3091_4
                  have gL3093_3 : cv_get L3093 3 = some (cv_i x3068) := kL3093 3 _ (by decide) (fun q => absurd q (by decide)) gL3091_3
                  have gL3093_2 : cv_get L3093 2 = some (cv_i x3030) := kL3093 2 _ (by decide) (fun q => absurd q (by decide)) gL3091_2
                  have gL3093_0 : cv_get L3093 0 = some (cv_r 145) := kL3093 0 _ (by decide) (fun q => absurd q (by decide)) gL3091_0
                  have gL3093_1 : cv_get L3093 1 = some (cv_i n) := kL3093 1 _ (by decide) (fun q => absurd q (by decide)) gL3091_1
                  refine ex_go oq_X12_nextOrder_109 (t := 76) rfl rfl ?_
                  refine ex_ilw oq_X12_nextOrder_76 gL3093_5 ?_
                  refine ex_ilw oq_X12_nextOrder_78 gL3093_6 ?_
                  refine ex_if oq_X12_nextOrder_80 (t := 112) rfl rfl (fun (c3094 : x3092.toInt ≤ x3090.toInt) => ?_) (fun (c3094 : ¬ (x3092.toInt ≤ x3090.toInt)) => ?_)
                  · refine ex_ic oq_X12_nextOrder_112 (m := 1) (by decide) (fun x3095 hx3095 => ?_)
                    refine ex_retb oq_X12_nextOrder_113 rfl (by omega) (by omega) (hQ x3095 h3089 Th3089 Fh3089 (by omega) (by omega) (fun _ => ⟨⟨?_, ?_⟩, ?_⟩))
                    · intro i hi hin
                      match i, hi, hin with
                      | 0, _, hin => omega
                      | 1, _, hin => omega
                      | 2, _, hin => omega
                      | 3, _, hin => omega
                    · intro i j hi hj hin hjn hij
                      match i, hi, hin, j, hj, hjn, hij with
                      | 0, _, hin, 0, _, hjn, hij => omega
                      | 0, _, hin, 1, _, hjn, hij => omega
                      | 0, _, hin, 2, _, hjn, hij => omega
                      | 0, _, hin, 3, _, hjn, hij => omega
                      | 1, _, hin, 0, _, hjn, hij => omega
                      | 1, _, hin, 1, _, hjn, hij => omega
                      | 1, _, hin, 2, _, hjn, hij => omega
                      | 1, _, hin, 3, _, hjn, hij => omega
                      | 2, _, hin, 0, _, hjn, hij => omega
                      | 2, _, hin, 1, _, hjn, hij => omega
                      | 2, _, hin, 2, _, hjn, hij => omega
                      | 2, _, hin, 3, _, hjn, hij => omega
                      | 3, _, hin, 0, _, hjn, hij => omega
                      | 3, _, hin, 1, _, hjn, hij => omega
                      | 3, _, hin, 2, _, hjn, hij => omega
                      | 3, _, hin, 3, _, hjn, hij => omega
                    · unfold od_r; omega
                  · exfalso; omega
              · exfalso; omega
          · exfalso; omega
        · refine ex_incA oq_X12_nextOrder_19 (v := x3030) (m := (-1)) gL3031_2 (by decide) (by omega) (fun L3097 x3096 hx3096 gL3097_2 kL3097 => ?_)
          have gL3097_0 : cv_get L3097 0 = some (cv_r 145) := kL3097 0 _ (by decide) (fun q => absurd q (by decide)) gL3031_0
          have gL3097_1 : cv_get L3097 1 = some (cv_i n) := kL3097 1 _ (by decide) (fun _ => rfl) gL3031_1
          refine ex_go oq_X12_nextOrder_22 (t := 4) rfl rfl ?_
          refine ex_il oq_X12_nextOrder_4 gL3097_2 ?_
          refine ex_if0 oq_X12_nextOrder_5 (t := 25) rfl rfl (fun (c3098 : x3096.toInt < 0) => ?_) (fun (c3098 : ¬ (x3096.toInt < 0)) => ?_)
          · refine ex_il oq_X12_nextOrder_25 gL3097_2 ?_
            refine ex_if0 oq_X12_nextOrder_26 (t := 31) rfl rfl (fun (c3099 : 0 ≤ x3096.toInt) => ?_) (fun (c3099 : ¬ (0 ≤ x3096.toInt)) => ?_)
            · exfalso; omega
            · refine ex_ic oq_X12_nextOrder_29 (m := 0) (by decide) (fun x3100 hx3100 => ?_)
              exact ex_retb oq_X12_nextOrder_30 rfl (by omega) (by omega) (hQ x3100 h hT Fh (by omega) (by omega) (fun q => absurd q (by omega)))
          · exfalso; omega
theorem no_4 {h : cv_H} (hT : cw_T G h) (n : Int32) (hn : n.toInt = 4) (hp : od_p 4 h) (hQ : ∀ (x : Int32) (h' : cv_H), cw_T G h' → cw_Fr cw_Ds cw_sh kk_X12_nextOrder.2.2.2.2.2.1 h h' → 0 ≤ x.toInt → x.toInt ≤ 1 → (x.toInt = 1 → od_p 4 h' ∧ od_r h < od_r h') → Q (some (cv_i x), h')) : cw_X X 265 Q 0 (cv_ent 0 [cv_r 145, cv_i n]) [] h := by
  have Fh : cw_Fr cw_Ds cw_sh kk_X12_nextOrder.2.2.2.2.2.1 h h := cw_Fr_refl
  have p0 := hp.1 0 (by decide) (by decide)
  have p1 := hp.1 1 (by decide) (by decide)
  have p2 := hp.1 2 (by decide) (by decide)
  have p3 := hp.1 3 (by decide) (by decide)
  have d10 := hp.2 1 0 (by decide) (by decide) (by decide) (by decide) (by decide)
  have d20 := hp.2 2 0 (by decide) (by decide) (by decide) (by decide) (by decide)
  have d21 := hp.2 2 1 (by decide) (by decide) (by decide) (by decide) (by decide)
  have d30 := hp.2 3 0 (by decide) (by decide) (by decide) (by decide) (by decide)
  have d31 := hp.2 3 1 (by decide) (by decide) (by decide) (by decide) (by decide)
  have d32 := hp.2 3 2 (by decide) (by decide) (by decide) (by decide) (by decide)
  refine ex_il oq_X12_nextOrder_0 rfl ?_
  refine ex_ic oq_X12_nextOrder_1 (m := 2) (by decide) (fun x4001 hx4001 => ?_)
  refine ex_sub oq_X12_nextOrder_2 (by omega) (fun x4002 hx4002 => ?_)
  refine ex_isA oq_X12_nextOrder_3 (fun L4003 gL4003_2 kL4003 => ?_)
  have gL4003_0 : cv_get L4003 0 = some (cv_r 145) := kL4003 0 _ (by decide) (fun q => absurd q (by decide)) rfl
  have gL4003_1 : cv_get L4003 1 = some (cv_i n) := kL4003 1 _ (by decide) (fun _ => rfl) rfl
  refine ex_il oq_X12_nextOrder_4 gL4003_2 ?_
  refine ex_if0 oq_X12_nextOrder_5 (t := 25) rfl rfl (fun (c4004 : x4002.toInt < 0) => ?_) (fun (c4004 : ¬ (x4002.toInt < 0)) => ?_)
  · exfalso; omega
  · refine ex_al oq_X12_nextOrder_8 gL4003_0 ?_
    refine ex_il oq_X12_nextOrder_9 gL4003_2 ?_
    refine ex_ia1 oq_X12_nextOrder_10 hT (k := 145) (d := 84) (j := 2) rfl rfl (by omega) (by omega) (fun x4005 hx4005 lx4005 ux4005 => ?_)
    refine ex_al oq_X12_nextOrder_11 gL4003_0 ?_
    refine ex_il oq_X12_nextOrder_12 gL4003_2 ?_
    refine ex_ic oq_X12_nextOrder_13 (m := 1) (by decide) (fun x4006 hx4006 => ?_)
    refine ex_add oq_X12_nextOrder_14 (by omega) (fun x4007 hx4007 => ?_)
    refine ex_ia1 oq_X12_nextOrder_15 hT (k := 145) (d := 84) (j := 3) rfl rfl (by omega) (by omega) (fun x4008 hx4008 lx4008 ux4008 => ?_)
    refine ex_if oq_X12_nextOrder_16 (t := 25) rfl rfl (fun (c4009 : x4005.toInt ≤ x4008.toInt) => ?_) (fun (c4009 : ¬ (x4005.toInt ≤ x4008.toInt)) => ?_)
    · refine ex_il oq_X12_nextOrder_25 gL4003_2 ?_
      refine ex_if0 oq_X12_nextOrder_26 (t := 31) rfl rfl (fun (c4010 : 0 ≤ x4002.toInt) => ?_) (fun (c4010 : ¬ (0 ≤ x4002.toInt)) => ?_)
      · refine ex_il oq_X12_nextOrder_31 gL4003_1 ?_
        refine ex_ic oq_X12_nextOrder_32 (m := 1) (by decide) (fun x4011 hx4011 => ?_)
        refine ex_sub oq_X12_nextOrder_33 (by omega) (fun x4012 hx4012 => ?_)
        refine ex_isA oq_X12_nextOrder_34 (fun L4013 gL4013_3 kL4013 => ?_)
        have gL4013_2 : cv_get L4013 2 = some (cv_i x4002) := kL4013 2 _ (by decide) (fun _ => rfl) gL4003_2
        have gL4013_0 : cv_get L4013 0 = some (cv_r 145) := kL4013 0 _ (by decide) (fun q => absurd q (by decide)) gL4003_0
        have gL4013_1 : cv_get L4013 1 = some (cv_i n) := kL4013 1 _ (by decide) (fun q => absurd q (by decide)) gL4003_1
        refine ex_al oq_X12_nextOrder_35 gL4013_0 ?_
        refine ex_il oq_X12_nextOrder_36 gL4013_3 ?_
        refine ex_ia1 oq_X12_nextOrder_37 hT (k := 145) (d := 84) (j := 3) rfl rfl (by omega) (by omega) (fun x4014 hx4014 lx4014 ux4014 => ?_)
        refine ex_al oq_X12_nextOrder_38 gL4013_0 ?_
        refine ex_il oq_X12_nextOrder_39 gL4013_2 ?_
        refine ex_ia1 oq_X12_nextOrder_40 hT (k := 145) (d := 84) (j := 2) rfl rfl (by omega) (by omega) (fun x4015 hx4015 lx4015 ux4015 => ?_)
        refine ex_if oq_X12_nextOrder_41 (t := 50) rfl rfl (fun (c4016 : x4015.toInt ≤ x4014.toInt) => ?_) (fun (c4016 : ¬ (x4015.toInt ≤ x4014.toInt)) => ?_)
        · refine ex_al oq_X12_nextOrder_50 gL4013_0 ?_
          refine ex_il oq_X12_nextOrder_51 gL4013_2 ?_
          refine ex_ia1 oq_X12_nextOrder_52 hT (k := 145) (d := 84) (j := 2) rfl rfl (by omega) (by omega) (fun x4017 hx4017 lx4017 ux4017 => ?_)
          refine ex_iswA oq_X12_nextOrder_53 (fun L4018 gL4018_4 kL4018 => ?_)
          have gL4018_3 : cv_get L4018 3 = some (cv_i x4012) := kL4018 3 _ (by decide) (fun _ => rfl) gL4013_3
          have gL4018_2 : cv_get L4018 2 = some (cv_i x4002) := kL4018 2 _ (by decide) (fun q => absurd q (by decide)) gL4013_2
          have gL4018_0 : cv_get L4018 0 = some (cv_r 145) := kL4018 0 _ (by decide) (fun q => absurd q (by decide)) gL4013_0
          have gL4018_1 : cv_get L4018 1 = some (cv_i n) := kL4018 1 _ (by decide) (fun q => absurd q (by decide)) gL4013_1
          refine ex_al oq_X12_nextOrder_55 gL4018_0 ?_
          refine ex_il oq_X12_nextOrder_56 gL4018_2 ?_
          refine ex_al oq_X12_nextOrder_57 gL4018_0 ?_
          refine ex_il oq_X12_nextOrder_58 gL4018_3 ?_
          refine ex_ia1 oq_X12_nextOrder_59 hT (k := 145) (d := 84) (j := 3) rfl rfl (by omega) (by omega) (fun x4019 hx4019 lx4019 ux4019 => ?_)
          refine ex_iw1 oq_X12_nextOrder_60 hT (k := 145) (d := 84) (j := 2) rfl rfl (by omega) (by omega) ⟨by omega, by omega⟩ (fun h4020 Th4020 wh4020 => ?_)
          have Fh4020 : cw_Fr cw_Ds cw_sh kk_X12_nextOrder.2.2.2.2.2.1 h h4020 := cw_Fr_tr Fh (cw_Fr_wrr wh4020 (k := 145) (d := 84) rfl rfl (by decide +kernel))
          have eh4020_o0 : ri_at h4020 145 0 = ri_at h 145 0 := ri_ne wh4020 (.inr (by decide))
          have eh4020_o1 : ri_at h4020 145 1 = ri_at h 145 1 := ri_ne wh4020 (.inr (by decide))
          have eh4020_o2 : ri_at h4020 145 2 = x4019.toInt := ri_self wh4020
          have eh4020_o3 : ri_at h4020 145 3 = ri_at h 145 3 := ri_ne wh4020 (.inr (by decide))
          refine ex_al oq_X12_nextOrder_61 gL4018_0 ?_
          refine ex_il oq_X12_nextOrder_62 gL4018_3 ?_
          refine ex_ilw oq_X12_nextOrder_63 gL4018_4 ?_
          refine ex_iw1 oq_X12_nextOrder_65 Th4020 (k := 145) (d := 84) (j := 3) rfl rfl (by omega) (by omega) ⟨by omega, by omega⟩ (fun h4021 Th4021 wh4021 => ?_)
          have Fh4021 : cw_Fr cw_Ds cw_sh kk_X12_nextOrder.2.2.2.2.2.1 h h4021 := cw_Fr_tr Fh4020 (cw_Fr_wrr wh4021 (k := 145) (d := 84) rfl rfl (by decide +kernel))
          have eh4021_o0 : ri_at h4021 145 0 = ri_at h4020 145 0 := ri_ne wh4021 (.inr (by decide))
          have eh4021_o1 : ri_at h4021 145 1 = ri_at h4020 145 1 := ri_ne wh4021 (.inr (by decide))
          have eh4021_o2 : ri_at h4021 145 2 = ri_at h4020 145 2 := ri_ne wh4021 (.inr (by decide))
          have eh4021_o3 : ri_at h4021 145 3 = x4017.toInt := ri_self wh4021
          refine ex_il oq_X12_nextOrder_66 gL4018_2 ?_
          refine ex_ic oq_X12_nextOrder_67 (m := 1) (by decide) (fun x4022 hx4022 => ?_)
          refine ex_add oq_X12_nextOrder_68 (by omega) (fun x4023 hx4023 => ?_)
          refine ex_iswA oq_X12_nextOrder_69 (fun L4024 gL4024_5 kL4024 => ?_)
          have gL4024_4 : cv_get L4024 4 = some (cv_i x4017) := kL4024 4 _ (by decide) (fun _ => rfl) gL4018_4
          have gL4024_3 : cv_get L4024 3 = some (cv_i x4012) := kL4024 3 _ (by decide) (fun q => absurd q (by decide)) gL4018_3
          have gL4024_2 : cv_get L4024 2 = some (cv_i x4002) := kL4024 2 _ (by decide) (fun q => absurd q (by decide)) gL4018_2
          have gL4024_0 : cv_get L4024 0 = some (cv_r 145) := kL4024 0 _ (by decide) (fun q => absurd q (by decide)) gL4018_0
          have gL4024_1 : cv_get L4024 1 = some (cv_i n) := kL4024 1 _ (by decide) (fun q => absurd q (by decide)) gL4018_1
          refine ex_il oq_X12_nextOrder_71 gL4024_1 ?_
          refine ex_ic oq_X12_nextOrder_72 (m := 1) (by decide) (fun x4025 hx4025 => ?_)
          refine ex_sub oq_X12_nextOrder_73 (by omega) (fun x4026 hx4026 => ?_)
          refine ex_iswA oq_X12_nextOrder_74 (fun L4027 gL4027_6 kL4027 => ?_)
          have gL4027_5 : cv_get L4027 5 = some (cv_i x4023) := kL4027 5 _ (by decide) (fun _ => rfl) gL4024_5
          have gL4027_4 : cv_get L4027 4 = some (cv_i x4017) := kL4027 4 _ (by decide) (fun q => absurd q (by decide)) gL4024_4
          have gL4027_3 : cv_get L4027 3 = some (cv_i x4012) := kL4027 3 _ (by decide) (fun q => absurd q (by decide)) gL4024_3
          have gL4027_2 : cv_get L4027 2 = some (cv_i x4002) := kL4027 2 _ (by decide) (fun q => absurd q (by decide)) gL4024_2
          have gL4027_0 : cv_get L4027 0 = some (cv_r 145) := kL4027 0 _ (by decide) (fun q => absurd q (by decide)) gL4024_0
          have gL4027_1 : cv_get L4027 1 = some (cv_i n) := kL4027 1 _ (by decide) (fun q => absurd q (by decide)) gL4024_1
          refine ex_ilw oq_X12_nextOrder_76 gL4027_5 ?_
          refine ex_ilw oq_X12_nextOrder_78 gL4027_6 ?_
          refine ex_if oq_X12_nextOrder_80 (t := 112) rfl rfl (fun (c4028 : x4026.toInt ≤ x4023.toInt) => ?_) (fun (c4028 : ¬ (x4026.toInt ≤ x4023.toInt)) => ?_)
          · refine ex_ic oq_X12_nextOrder_112 (m := 1) (by decide) (fun x4029 hx4029 => ?_)
            refine ex_retb oq_X12_nextOrder_113 rfl (by omega) (by omega) (hQ x4029 h4021 Th4021 Fh4021 (by omega) (by omega) (fun _ => ⟨⟨?_, ?_⟩, ?_⟩))
            · intro i hi hin
              match i, hi, hin with
              | 0, _, hin => omega
              | 1, _, hin => omega
              | 2, _, hin => omega
              | 3, _, hin => omega
            · intro i j hi hj hin hjn hij
              match i, hi, hin, j, hj, hjn, hij with
              | 0, _, hin, 0, _, hjn, hij => omega
              | 0, _, hin, 1, _, hjn, hij => omega
              | 0, _, hin, 2, _, hjn, hij => omega
              | 0, _, hin, 3, _, hjn, hij => omega
              | 1, _, hin, 0, _, hjn, hij => omega
              | 1, _, hin, 1, _, hjn, hij => omega
              | 1, _, hin, 2, _, hjn, hij => omega
              | 1, _, hin, 3, _, hjn, hij => omega
              | 2, _, hin, 0, _, hjn, hij => omega
              | 2, _, hin, 1, _, hjn, hij => omega
              | 2, _, hin, 2, _, hjn, hij => omega
              | 2, _, hin, 3, _, hjn, hij => omega
              | 3, _, hin, 0, _, hjn, hij => omega
              | 3, _, hin, 1, _, hjn, hij => omega
              | 3, _, hin, 2, _, hjn, hij => omega
              | 3, _, hin, 3, _, hjn, hij => omega
            · unfold od_r; omega
          · exfalso; omega
        · exfalso; omega
      · exfalso; omega
    · refine ex_incA oq_X12_nextOrder_19 (v := x4002) (m := (-1)) gL4003_2 (by decide) (by omega) (fun L4031 x4030 hx4030 gL4031_2 kL4031 => ?_)
      have gL4031_0 : cv_get L4031 0 = some (cv_r 145) := kL4031 0 _ (by decide) (fun q => absurd q (by decide)) gL4003_0
      have gL4031_1 : cv_get L4031 1 = some (cv_i n) := kL4031 1 _ (by decide) (fun _ => rfl) gL4003_1
      refine ex_go oq_X12_nextOrder_22 (t := 4) rfl rfl ?_
      refine ex_il oq_X12_nextOrder_4 gL4031_2 ?_
      refine ex_if0 oq_X12_nextOrder_5 (t := 25) rfl rfl (fun (c4032 : x4030.toInt < 0) => ?_) (fun (c4032 : ¬ (x4030.toInt < 0)) => ?_)
      · exfalso; omega
      · refine ex_al oq_X12_nextOrder_8 gL4031_0 ?_
        refine ex_il oq_X12_nextOrder_9 gL4031_2 ?_
        refine ex_ia1 oq_X12_nextOrder_10 hT (k := 145) (d := 84) (j := 1) rfl rfl (by omega) (by omega) (fun x4033 hx4033 lx4033 ux4033 => ?_)
        refine ex_al oq_X12_nextOrder_11 gL4031_0 ?_
        refine ex_il oq_X12_nextOrder_12 gL4031_2 ?_
        refine ex_ic oq_X12_nextOrder_13 (m := 1) (by decide) (fun x4034 hx4034 => ?_)
        refine ex_add oq_X12_nextOrder_14 (by omega) (fun x4035 hx4035 => ?_)
        refine ex_ia1 oq_X12_nextOrder_15 hT (k := 145) (d := 84) (j := 2) rfl rfl (by omega) (by omega) (fun x4036 hx4036 lx4036 ux4036 => ?_)
        refine ex_if oq_X12_nextOrder_16 (t := 25) rfl rfl (fun (c4037 : x4033.toInt ≤ x4036.toInt) => ?_) (fun (c4037 : ¬ (x4033.toInt ≤ x4036.toInt)) => ?_)
        · refine ex_il oq_X12_nextOrder_25 gL4031_2 ?_
          refine ex_if0 oq_X12_nextOrder_26 (t := 31) rfl rfl (fun (c4038 : 0 ≤ x4030.toInt) => ?_) (fun (c4038 : ¬ (0 ≤ x4030.toInt)) => ?_)
          · refine ex_il oq_X12_nextOrder_31 gL4031_1 ?_
            refine ex_ic oq_X12_nextOrder_32 (m := 1) (by decide) (fun x4039 hx4039 => ?_)
            refine ex_sub oq_X12_nextOrder_33 (by omega) (fun x4040 hx4040 => ?_)
            refine ex_isA oq_X12_nextOrder_34 (fun L4041 gL4041_3 kL4041 => ?_)
            have gL4041_2 : cv_get L4041 2 = some (cv_i x4030) := kL4041 2 _ (by decide) (fun _ => rfl) gL4031_2
            have gL4041_0 : cv_get L4041 0 = some (cv_r 145) := kL4041 0 _ (by decide) (fun q => absurd q (by decide)) gL4031_0
            have gL4041_1 : cv_get L4041 1 = some (cv_i n) := kL4041 1 _ (by decide) (fun q => absurd q (by decide)) gL4031_1
            refine ex_al oq_X12_nextOrder_35 gL4041_0 ?_
            refine ex_il oq_X12_nextOrder_36 gL4041_3 ?_
            refine ex_ia1 oq_X12_nextOrder_37 hT (k := 145) (d := 84) (j := 3) rfl rfl (by omega) (by omega) (fun x4042 hx4042 lx4042 ux4042 => ?_)
            refine ex_al oq_X12_nextOrder_38 gL4041_0 ?_
            refine ex_il oq_X12_nextOrder_39 gL4041_2 ?_
            refine ex_ia1 oq_X12_nextOrder_40 hT (k := 145) (d := 84) (j := 1) rfl rfl (by omega) (by omega) (fun x4043 hx4043 lx4043 ux4043 => ?_)
            refine ex_if oq_X12_nextOrder_41 (t := 50) rfl rfl (fun (c4044 : x4043.toInt ≤ x4042.toInt) => ?_) (fun (c4044 : ¬ (x4043.toInt ≤ x4042.toInt)) => ?_)
            · refine ex_al oq_X12_nextOrder_50 gL4041_0 ?_
              refine ex_il oq_X12_nextOrder_51 gL4041_2 ?_
              refine ex_ia1 oq_X12_nextOrder_52 hT (k := 145) (d := 84) (j := 1) rfl rfl (by omega) (by omega) (fun x4045 hx4045 lx4045 ux4045 => ?_)
              refine ex_iswA oq_X12_nextOrder_53 (fun L4046 gL4046_4 kL4046 => ?_)
              have gL4046_3 : cv_get L4046 3 = some (cv_i x4040) := kL4046 3 _ (by decide) (fun _ => rfl) gL4041_3
              have gL4046_2 : cv_get L4046 2 = some (cv_i x4030) := kL4046 2 _ (by decide) (fun q => absurd q (by decide)) gL4041_2
              have gL4046_0 : cv_get L4046 0 = some (cv_r 145) := kL4046 0 _ (by decide) (fun q => absurd q (by decide)) gL4041_0
              have gL4046_1 : cv_get L4046 1 = some (cv_i n) := kL4046 1 _ (by decide) (fun q => absurd q (by decide)) gL4041_1
              refine ex_al oq_X12_nextOrder_55 gL4046_0 ?_
              refine ex_il oq_X12_nextOrder_56 gL4046_2 ?_
              refine ex_al oq_X12_nextOrder_57 gL4046_0 ?_
              refine ex_il oq_X12_nextOrder_58 gL4046_3 ?_
              refine ex_ia1 oq_X12_nextOrder_59 hT (k := 145) (d := 84) (j := 3) rfl rfl (by omega) (by omega) (fun x4047 hx4047 lx4047 ux4047 => ?_)
              refine ex_iw1 oq_X12_nextOrder_60 hT (k := 145) (d := 84) (j := 1) rfl rfl (by omega) (by omega) ⟨by omega, by omega⟩ (fun h4048 Th4048 wh4048 => ?_)
              have Fh4048 : cw_Fr cw_Ds cw_sh kk_X12_nextOrder.2.2.2.2.2.1 h h4048 := cw_Fr_tr Fh (cw_Fr_wrr wh4048 (k := 145) (d := 84) rfl rfl (by decide +kernel))
              have eh4048_o0 : ri_at h4048 145 0 = ri_at h 145 0 := ri_ne wh4048 (.inr (by decide))
              have eh4048_o1 : ri_at h4048 145 1 = x4047.toInt := ri_self wh4048
              have eh4048_o2 : ri_at h4048 145 2 = ri_at h 145 2 := ri_ne wh4048 (.inr (by decide))
              have eh4048_o3 : ri_at h4048 145 3 = ri_at h 145 3 := ri_ne wh4048 (.inr (by decide))
              refine ex_al oq_X12_nextOrder_61 gL4046_0 ?_
              refine ex_il oq_X12_nextOrder_62 gL4046_3 ?_
              refine ex_ilw oq_X12_nextOrder_63 gL4046_4 ?_
              refine ex_iw1 oq_X12_nextOrder_65 Th4048 (k := 145) (d := 84) (j := 3) rfl rfl (by omega) (by omega) ⟨by omega, by omega⟩ (fun h4049 Th4049 wh4049 => ?_)
              have Fh4049 : cw_Fr cw_Ds cw_sh kk_X12_nextOrder.2.2.2.2.2.1 h h4049 := cw_Fr_tr Fh4048 (cw_Fr_wrr wh4049 (k := 145) (d := 84) rfl rfl (by decide +kernel))
              have eh4049_o0 : ri_at h4049 145 0 = ri_at h4048 145 0 := ri_ne wh4049 (.inr (by decide))
              have eh4049_o1 : ri_at h4049 145 1 = ri_at h4048 145 1 := ri_ne wh4049 (.inr (by decide))
              have eh4049_o2 : ri_at h4049 145 2 = ri_at h4048 145 2 := ri_ne wh4049 (.inr (by decide))
              have eh4049_o3 : ri_at h4049 145 3 = x4045.toInt := ri_self wh4049
              refine ex_il oq_X12_nextOrder_66 gL4046_2 ?_
              refine ex_ic oq_X12_nextOrder_67 (m := 1) (by decide) (fun x4050 hx4050 => ?_)
              refine ex_add oq_X12_nextOrder_68 (by omega) (fun x4051 hx4051 => ?_)
              refine ex_iswA oq_X12_nextOrder_69 (fun L4052 gL4052_5 kL4052 => ?_)
              have gL4052_4 : cv_get L4052 4 = some (cv_i x4045) := kL4052 4 _ (by decide) (fun _ => rfl) gL4046_4
              have gL4052_3 : cv_get L4052 3 = some (cv_i x4040) := kL4052 3 _ (by decide) (fun q => absurd q (by decide)) gL4046_3
              have gL4052_2 : cv_get L4052 2 = some (cv_i x4030) := kL4052 2 _ (by decide) (fun q => absurd q (by decide)) gL4046_2
              have gL4052_0 : cv_get L4052 0 = some (cv_r 145) := kL4052 0 _ (by decide) (fun q => absurd q (by decide)) gL4046_0
              have gL4052_1 : cv_get L4052 1 = some (cv_i n) := kL4052 1 _ (by decide) (fun q => absurd q (by decide)) gL4046_1
              refine ex_il oq_X12_nextOrder_71 gL4052_1 ?_
              refine ex_ic oq_X12_nextOrder_72 (m := 1) (by decide) (fun x4053 hx4053 => ?_)
              refine ex_sub oq_X12_nextOrder_73 (by omega) (fun x4054 hx4054 => ?_)
              refine ex_iswA oq_X12_nextOrder_74 (fun L4055 gL4055_6 kL4055 => ?_)
              have gL4055_5 : cv_get L4055 5 = some (cv_i x4051) := kL4055 5 _ (by decide) (fun _ => rfl) gL4052_5
              have gL4055_4 : cv_get L4055 4 = some (cv_i x4045) := kL4055 4 _ (by decide) (fun q => absurd q (by decide)) gL4052_4
              have gL4055_3 : cv_get L4055 3 = some (cv_i x4040) := kL4055 3 _ (by decide) (fun q => absurd q (by decide)) gL4052_3
              have gL4055_2 : cv_get L4055 2 = some (cv_i x4030) := kL4055 2 _ (by decide) (fun q => absurd q (by decide)) gL4052_2
              have gL4055_0 : cv_get L4055 0 = some (cv_r 145) := kL4055 0 _ (by decide) (fun q => absurd q (by decide)) gL4052_0
              have gL4055_1 : cv_get L4055 1 = some (cv_i n) := kL4055 1 _ (by decide) (fun q => absurd q (by decide)) gL4052_1
              refine ex_ilw oq_X12_nextOrder_76 gL4055_5 ?_
              refine ex_ilw oq_X12_nextOrder_78 gL4055_6 ?_
              refine ex_if oq_X12_nextOrder_80 (t := 112) rfl rfl (fun (c4056 : x4054.toInt ≤ x4051.toInt) => ?_) (fun (c4056 : ¬ (x4054.toInt ≤ x4051.toInt)) => ?_)
              · exfalso; omega
              · refine ex_al oq_X12_nextOrder_83 gL4055_0 ?_
                refine ex_ilw oq_X12_nextOrder_84 gL4055_5 ?_
                refine ex_ia1 oq_X12_nextOrder_86 Th4049 (k := 145) (d := 84) (j := 2) rfl rfl (by omega) (by omega) (fun x4057 hx4057 lx4057 ux4057 => ?_)
                refine ex_iswA oq_X12_nextOrder_87 (fun L4058 gL4058_4 kL4058 => ?_)
                have gL4058_6 : cv_get L4058 6 = some (cv_i x4054) := kL4058 6 _ (by decide) (fun q => absurd q (by decide)) gL4055_6
                have gL4058_5 : cv_get L4058 5 = some (cv_i x4051) := kL4058 5 _ (by decide) (fun q => absurd q (by decide)) gL4055_5
                have gL4058_3 : cv_get L4058 3 = some (cv_i x4040) := kL4058 3 _ (by decide) (fun _ => rfl) gL4055_3
                have gL4058_2 : cv_get L4058 2 = some (cv_i x4030) := kL4058 2 _ (by decide) (fun q => absurd q (by decide)) gL4055_2
                have gL4058_0 : cv_get L4058 0 = some (cv_r 145) := kL4058 0 _ (by decide) (fun q => absurd q (by decide)) gL4055_0
                have gL4058_1 : cv_get L4058 1 = some (cv_i n) := kL4058 1 _ (by decide) (fun q => absurd q (by decide)) gL4055_1
                refine ex_al oq_X12_nextOrder_89 gL4058_0 ?_
                refine ex_ilw oq_X12_nextOrder_90 gL4058_5 ?_
                refine ex_al oq_X12_nextOrder_92 gL4058_0 ?_
                refine ex_ilw oq_X12_nextOrder_93 gL4058_6 ?_
                refine ex_ia1 oq_X12_nextOrder_95 Th4049 (k := 145) (d := 84) (j := 3) rfl rfl (by omega) (by omega) (fun x4059 hx4059 lx4059 ux4059 => ?_)
                refine ex_iw1 oq_X12_nextOrder_96 Th4049 (k := 145) (d := 84) (j := 2) rfl rfl (by omega) (by omega) ⟨by omega, by omega⟩ (fun h4060 Th4060 wh4060 => ?_)
                have Fh4060 : cw_Fr cw_Ds cw_sh kk_X12_nextOrder.2.2.2.2.2.1 h h4060 := cw_Fr_tr Fh4049 (cw_Fr_wrr wh4060 (k := 145) (d := 84) rfl rfl (by decide +kernel))
                have eh4060_o0 : ri_at h4060 145 0 = ri_at h4049 145 0 := ri_ne wh4060 (.inr (by decide))
                have eh4060_o1 : ri_at h4060 145 1 = ri_at h4049 145 1 := ri_ne wh4060 (.inr (by decide))
                have eh4060_o2 : ri_at h4060 145 2 = x4059.toInt := ri_self wh4060
                have eh4060_o3 : ri_at h4060 145 3 = ri_at h4049 145 3 := ri_ne wh4060 (.inr (by decide))
                refine ex_al oq_X12_nextOrder_97 gL4058_0 ?_
                refine ex_ilw oq_X12_nextOrder_98 gL4058_6 ?_
                refine ex_ilw oq_X12_nextOrder_100 gL4058_4 ?_
                refine ex_iw1 oq_X12_nextOrder_102 Th4060 (k := 145) (d := 84) (j := 3) rfl rfl (by omega) (by omega) ⟨by omega, by omega⟩ (fun h4061 Th4061 wh4061 => ?_)
                have Fh4061 : cw_Fr cw_Ds cw_sh kk_X12_nextOrder.2.2.2.2.2.1 h h4061 := cw_Fr_tr Fh4060 (cw_Fr_wrr wh4061 (k := 145) (d := 84) rfl rfl (by decide +kernel))
                have eh4061_o0 : ri_at h4061 145 0 = ri_at h4060 145 0 := ri_ne wh4061 (.inr (by decide))
                have eh4061_o1 : ri_at h4061 145 1 = ri_at h4060 145 1 := ri_ne wh4061 (.inr (by decide))
                have eh4061_o2 : ri_at h4061 145 2 = ri_at h4060 145 2 := ri_ne wh4061 (.inr (by decide))
                have eh4061_o3 : ri_at h4061 145 3 = x4057.toInt := ri_self wh4061
                refine ex_incA oq_X12_nextOrder_103 (v := x4051) (m := 1) gL4058_5 (by decide) (by omega) (fun L4063 x4062 hx4062 gL4063_5 kL4063 => ?_)
                have gL4063_4 : cv_get L4063 4 = some (cv_i x4057) := kL4063 4 _ (by decide) (fun _ => rfl) gL4058_4
                have gL4063_6 : cv_get L4063 6 = some (cv_i x4054) := kL4063 6 _ (by decide) (fun q => absurd q (by decide)) gL4058_6
                have gL4063_3 : cv_get L4063 3 = some (cv_i x4040) := kL4063 3 _ (by decide) (fun q => absurd q (by decide)) gL4058_3
                have gL4063_2 : cv_get L4063 2 = some (cv_i x4030) := kL4063 2 _ (by decide) (fun q => absurd q (by decide)) gL4058_2
                have gL4063_0 : cv_get L4063 0 = some (cv_r 145) := kL4063 0 _ (by decide) (fun q => absurd q (by decide)) gL4058_0
                have gL4063_1 : cv_get L4063 1 = some (cv_i n) := kL4063 1 _ (by decide) (fun q => absurd q (by decide)) gL4058_1
                refine ex_incA oq_X12_nextOrder_106 (v := x4054) (m := (-1)) gL4063_6 (by decide) (by omega) (fun L4065 x4064 hx4064 gL4065_6 kL4065 => ?_)
                have gL4065_5 : cv_get L4065 5 = some (cv_i x4062) := kL4065 5 _ (by decide) (fun _ => rfl) gL4063_5
                have gL4065_4 : cv_get L4065 4 = some (cv_i x4057) := kL4065 4 _ (by decide) (fun q => absurd q (by decide)) gL4063_4
                have gL4065_3 : cv_get L4065 3 = some (cv_i x4040) := kL4065 3 _ (by decide) (fun q => absurd q (by decide)) gL4063_3
                have gL4065_2 : cv_get L4065 2 = some (cv_i x4030) := kL4065 2 _ (by decide) (fun q => absurd q (by decide)) gL4063_2
                have gL4065_0 : cv_get L4065 0 = some (cv_r 145) := kL4065 0 _ (by decide) (fun q => absurd q (by decide)) gL4063_0
                have gL4065_1 : cv_get L4065 1 = some (cv_i n) := kL4065 1 _ (by decide) (fun q => absurd q (by decide)) gL4063_1
                refine ex_go oq_X12_nextOrder_109 (t := 76) rfl rfl ?_
                refine ex_ilw oq_X12_nextOrder_76 gL4065_5 ?_
                refine ex_ilw oq_X12_nextOrder_78 gL4065_6 ?_
                refine ex_if oq_X12_nextOrder_80 (t := 112) rfl rfl (fun (c4066 : x4064.toInt ≤ x4062.toInt) => ?_) (fun (c4066 : ¬ (x4064.toInt ≤ x4062.toInt)) => ?_)
                · refine ex_ic oq_X12_nextOrder_112 (m := 1) (by decide) (fun x4067 hx4067 => ?_)
                  refine ex_retb oq_X12_nextOrder_113 rfl (by omega) (by omega) (hQ x4067 h4061 Th4061 Fh4061 (by omega) (by omega) (fun _ => ⟨⟨?_, ?_⟩, ?_⟩))
                  · intro i hi hin
                    match i, hi, hin with
                    | 0, _, hin => omega
                    | 1, _, hin => omega
                    | 2, _, hin => omega
                    | 3, _, hin => omega
                  · intro i j hi hj hin hjn hij
                    match i, hi, hin, j, hj, hjn, hij with
                    | 0, _, hin, 0, _, hjn, hij => omega
                    | 0, _, hin, 1, _, hjn, hij => omega
                    | 0, _, hin, 2, _, hjn, hij => omega
                    | 0, _, hin, 3, _, hjn, hij => omega
                    | 1, _, hin, 0, _, hjn, hij => omega
                    | 1, _, hin, 1, _, hjn, hij => omega
                    | 1, _, hin, 2, _, hjn, hij => omega
                    | 1, _, hin, 3, _, hjn, hij => omega
                    | 2, _, hin, 0, _, hjn, hij => omega
                    | 2, _, hin, 1, _, hjn, hij => omega
                    | 2, _, hin, 2, _, hjn, hij => omega
                    | 2, _, hin, 3, _, hjn, hij => omega
                    | 3, _, hin, 0, _, hjn, hij => omega
                    | 3, _, hin, 1, _, hjn, hij => omega
                    | 3, _, hin, 2, _, hjn, hij => omega
                    | 3, _, hin, 3, _, hjn, hij => omega
                  · unfold od_r; omega
                · exfalso; omega
            · refine ex_incA oq_X12_nextOrder_44 (v := x4040) (m := (-1)) gL4041_3 (by decide) (by omega) (fun L4069 x4068 hx4068 gL4069_3 kL4069 => ?_)
              have gL4069_2 : cv_get L4069 2 = some (cv_i x4030) := kL4069 2 _ (by decide) (fun _ => rfl) gL4041_2
              have gL4069_0 : cv_get L4069 0 = some (cv_r 145) := kL4069 0 _ (by decide) (fun q => absurd q (by decide)) gL4041_0
              have gL4069_1 : cv_get L4069 1 = some (cv_i n) := kL4069 1 _ (by decide) (fun q => absurd q (by decide)) gL4041_1
              refine ex_go oq_X12_nextOrder_47 (t := 35) rfl rfl ?_
              refine ex_al oq_X12_nextOrder_35 gL4069_0 ?_
              refine ex_il oq_X12_nextOrder_36 gL4069_3 ?_
              refine ex_ia1 oq_X12_nextOrder_37 hT (k := 145) (d := 84) (j := 2) rfl rfl (by omega) (by omega) (fun x4070 hx4070 lx4070 ux4070 => ?_)
              refine ex_al oq_X12_nextOrder_38 gL4069_0 ?_
              refine ex_il oq_X12_nextOrder_39 gL4069_2 ?_
              refine ex_ia1 oq_X12_nextOrder_40 hT (k := 145) (d := 84) (j := 1) rfl rfl (by omega) (by omega) (fun x4071 hx4071 lx4071 ux4071 => ?_)
              refine ex_if oq_X12_nextOrder_41 (t := 50) rfl rfl (fun (c4072 : x4071.toInt ≤ x4070.toInt) => ?_) (fun (c4072 : ¬ (x4071.toInt ≤ x4070.toInt)) => ?_)
              · refine ex_al oq_X12_nextOrder_50 gL4069_0 ?_
                refine ex_il oq_X12_nextOrder_51 gL4069_2 ?_
                refine ex_ia1 oq_X12_nextOrder_52 hT (k := 145) (d := 84) (j := 1) rfl rfl (by omega) (by omega) (fun x4073 hx4073 lx4073 ux4073 => ?_)
                refine ex_iswA oq_X12_nextOrder_53 (fun L4074 gL4074_4 kL4074 => ?_)
                have gL4074_3 : cv_get L4074 3 = some (cv_i x4068) := kL4074 3 _ (by decide) (fun _ => rfl) gL4069_3
                have gL4074_2 : cv_get L4074 2 = some (cv_i x4030) := kL4074 2 _ (by decide) (fun q => absurd q (by decide)) gL4069_2
                have gL4074_0 : cv_get L4074 0 = some (cv_r 145) := kL4074 0 _ (by decide) (fun q => absurd q (by decide)) gL4069_0
                have gL4074_1 : cv_get L4074 1 = some (cv_i n) := kL4074 1 _ (by decide) (fun q => absurd q (by decide)) gL4069_1
                refine ex_al oq_X12_nextOrder_55 gL4074_0 ?_
                refine ex_il oq_X12_nextOrder_56 gL4074_2 ?_
                refine ex_al oq_X12_nextOrder_57 gL4074_0 ?_
                refine ex_il oq_X12_nextOrder_58 gL4074_3 ?_
                refine ex_ia1 oq_X12_nextOrder_59 hT (k := 145) (d := 84) (j := 2) rfl rfl (by omega) (by omega) (fun x4075 hx4075 lx4075 ux4075 => ?_)
                refine ex_iw1 oq_X12_nextOrder_60 hT (k := 145) (d := 84) (j := 1) rfl rfl (by omega) (by omega) ⟨by omega, by omega⟩ (fun h4076 Th4076 wh4076 => ?_)
                have Fh4076 : cw_Fr cw_Ds cw_sh kk_X12_nextOrder.2.2.2.2.2.1 h h4076 := cw_Fr_tr Fh (cw_Fr_wrr wh4076 (k := 145) (d := 84) rfl rfl (by decide +kernel))
                have eh4076_o0 : ri_at h4076 145 0 = ri_at h 145 0 := ri_ne wh4076 (.inr (by decide))
                have eh4076_o1 : ri_at h4076 145 1 = x4075.toInt := ri_self wh4076
                have eh4076_o2 : ri_at h4076 145 2 = ri_at h 145 2 := ri_ne wh4076 (.inr (by decide))
                have eh4076_o3 : ri_at h4076 145 3 = ri_at h 145 3 := ri_ne wh4076 (.inr (by decide))
                refine ex_al oq_X12_nextOrder_61 gL4074_0 ?_
                refine ex_il oq_X12_nextOrder_62 gL4074_3 ?_
                refine ex_ilw oq_X12_nextOrder_63 gL4074_4 ?_
                refine ex_iw1 oq_X12_nextOrder_65 Th4076 (k := 145) (d := 84) (j := 2) rfl rfl (by omega) (by omega) ⟨by omega, by omega⟩ (fun h4077 Th4077 wh4077 => ?_)
                have Fh4077 : cw_Fr cw_Ds cw_sh kk_X12_nextOrder.2.2.2.2.2.1 h h4077 := cw_Fr_tr Fh4076 (cw_Fr_wrr wh4077 (k := 145) (d := 84) rfl rfl (by decide +kernel))
                have eh4077_o0 : ri_at h4077 145 0 = ri_at h4076 145 0 := ri_ne wh4077 (.inr (by decide))
                have eh4077_o1 : ri_at h4077 145 1 = ri_at h4076 145 1 := ri_ne wh4077 (.inr (by decide))
                have eh4077_o2 : ri_at h4077 145 2 = x4073.toInt := ri_self wh4077
                have eh4077_o3 : ri_at h4077 145 3 = ri_at h4076 145 3 := ri_ne wh4077 (.inr (by decide))
                refine ex_il oq_X12_nextOrder_66 gL4074_2 ?_
                refine ex_ic oq_X12_nextOrder_67 (m := 1) (by decide) (fun x4078 hx4078 => ?_)
                refine ex_add oq_X12_nextOrder_68 (by omega) (fun x4079 hx4079 => ?_)
                refine ex_iswA oq_X12_nextOrder_69 (fun L4080 gL4080_5 kL4080 => ?_)
                have gL4080_4 : cv_get L4080 4 = some (cv_i x4073) := kL4080 4 _ (by decide) (fun _ => rfl) gL4074_4
                have gL4080_3 : cv_get L4080 3 = some (cv_i x4068) := kL4080 3 _ (by decide) (fun q => absurd q (by decide)) gL4074_3
                have gL4080_2 : cv_get L4080 2 = some (cv_i x4030) := kL4080 2 _ (by decide) (fun q => absurd q (by decide)) gL4074_2
                have gL4080_0 : cv_get L4080 0 = some (cv_r 145) := kL4080 0 _ (by decide) (fun q => absurd q (by decide)) gL4074_0
                have gL4080_1 : cv_get L4080 1 = some (cv_i n) := kL4080 1 _ (by decide) (fun q => absurd q (by decide)) gL4074_1
                refine ex_il oq_X12_nextOrder_71 gL4080_1 ?_
                refine ex_ic oq_X12_nextOrder_72 (m := 1) (by decide) (fun x4081 hx4081 => ?_)
                refine ex_sub oq_X12_nextOrder_73 (by omega) (fun x4082 hx4082 => ?_)
                refine ex_iswA oq_X12_nextOrder_74 (fun L4083 gL4083_6 kL4083 => ?_)
                have gL4083_5 : cv_get L4083 5 = some (cv_i x4079) := kL4083 5 _ (by decide) (fun _ => rfl) gL4080_5
                have gL4083_4 : cv_get L4083 4 = some (cv_i x4073) := kL4083 4 _ (by decide) (fun q => absurd q (by decide)) gL4080_4
                have gL4083_3 : cv_get L4083 3 = some (cv_i x4068) := kL4083 3 _ (by decide) (fun q => absurd q (by decide)) gL4080_3
                have gL4083_2 : cv_get L4083 2 = some (cv_i x4030) := kL4083 2 _ (by decide) (fun q => absurd q (by decide)) gL4080_2
                have gL4083_0 : cv_get L4083 0 = some (cv_r 145) := kL4083 0 _ (by decide) (fun q => absurd q (by decide)) gL4080_0
                have gL4083_1 : cv_get L4083 1 = some (cv_i n) := kL4083 1 _ (by decide) (fun q => absurd q (by decide)) gL4080_1
                refine ex_ilw oq_X12_nextOrder_76 gL4083_5 ?_
                refine ex_ilw oq_X12_nextOrder_78 gL4083_6 ?_
                refine ex_if oq_X12_nextOrder_80 (t := 112) rfl rfl (fun (c4084 : x4082.toInt ≤ x4079.toInt) => ?_) (fun (c4084 : ¬ (x4082.toInt ≤ x4079.toInt)) => ?_)
                · exfalso; omega
                · refine ex_al oq_X12_nextOrder_83 gL4083_0 ?_
                  refine ex_ilw oq_X12_nextOrder_84 gL4083_5 ?_
                  refine ex_ia1 oq_X12_nextOrder_86 Th4077 (k := 145) (d := 84) (j := 2) rfl rfl (by omega) (by omega) (fun x4085 hx4085 lx4085 ux4085 => ?_)
                  refine ex_iswA oq_X12_nextOrder_87 (fun L4086 gL4086_4 kL4086 => ?_)
                  have gL4086_6 : cv_get L4086 6 = some (cv_i x4082) := kL4086 6 _ (by decide) (fun q => absurd q (by decide)) gL4083_6
                  have gL4086_5 : cv_get L4086 5 = some (cv_i x4079) := kL4086 5 _ (by decide) (fun q => absurd q (by decide)) gL4083_5
                  have gL4086_3 : cv_get L4086 3 = some (cv_i x4068) := kL4086 3 _ (by decide) (fun _ => rfl) gL4083_3
                  have gL4086_2 : cv_get L4086 2 = some (cv_i x4030) := kL4086 2 _ (by decide) (fun q => absurd q (by decide)) gL4083_2
                  have gL4086_0 : cv_get L4086 0 = some (cv_r 145) := kL4086 0 _ (by decide) (fun q => absurd q (by decide)) gL4083_0
                  have gL4086_1 : cv_get L4086 1 = some (cv_i n) := kL4086 1 _ (by decide) (fun q => absurd q (by decide)) gL4083_1
                  refine ex_al oq_X12_nextOrder_89 gL4086_0 ?_
                  refine ex_ilw oq_X12_nextOrder_90 gL4086_5 ?_
                  refine ex_al oq_X12_nextOrder_92 gL4086_0 ?_
                  refine ex_ilw oq_X12_nextOrder_93 gL4086_6 ?_
                  refine ex_ia1 oq_X12_nextOrder_95 Th4077 (k := 145) (d := 84) (j := 3) rfl rfl (by omega) (by omega) (fun x4087 hx4087 lx4087 ux4087 => ?_)
                  refine ex_iw1 oq_X12_nextOrder_96 Th4077 (k := 145) (d := 84) (j := 2) rfl rfl (by omega) (by omega) ⟨by omega, by omega⟩ (fun h4088 Th4088 wh4088 => ?_)
                  have Fh4088 : cw_Fr cw_Ds cw_sh kk_X12_nextOrder.2.2.2.2.2.1 h h4088 := cw_Fr_tr Fh4077 (cw_Fr_wrr wh4088 (k := 145) (d := 84) rfl rfl (by decide +kernel))
                  have eh4088_o0 : ri_at h4088 145 0 = ri_at h4077 145 0 := ri_ne wh4088 (.inr (by decide))
                  have eh4088_o1 : ri_at h4088 145 1 = ri_at h4077 145 1 := ri_ne wh4088 (.inr (by decide))
                  have eh4088_o2 : ri_at h4088 145 2 = x4087.toInt := ri_self wh4088
                  have eh4088_o3 : ri_at h4088 145 3 = ri_at h4077 145 3 := ri_ne wh4088 (.inr (by decide))
                  refine ex_al oq_X12_nextOrder_97 gL4086_0 ?_
                  refine ex_ilw oq_X12_nextOrder_98 gL4086_6 ?_
                  refine ex_ilw oq_X12_nextOrder_100 gL4086_4 ?_
                  refine ex_iw1 oq_X12_nextOrder_102 Th4088 (k := 145) (d := 84) (j := 3) rfl rfl (by omega) (by omega) ⟨by omega, by omega⟩ (fun h4089 Th4089 wh4089 => ?_)
                  have Fh4089 : cw_Fr cw_Ds cw_sh kk_X12_nextOrder.2.2.2.2.2.1 h h4089 := cw_Fr_tr Fh4088 (cw_Fr_wrr wh4089 (k := 145) (d := 84) rfl rfl (by decide +kernel))
                  have eh4089_o0 : ri_at h4089 145 0 = ri_at h4088 145 0 := ri_ne wh4089 (.inr (by decide))
                  have eh4089_o1 : ri_at h4089 145 1 = ri_at h4088 145 1 := ri_ne wh4089 (.inr (by decide))
                  have eh4089_o2 : ri_at h4089 145 2 = ri_at h4088 145 2 := ri_ne wh4089 (.inr (by decide))
                  have eh4089_o3 : ri_at h4089 145 3 = x4085.toInt := ri_self wh4089
                  refine ex_incA oq_X12_nextOrder_103 (v := x4079) (m := 1) gL4086_5 (by decide) (by omega) (fun L4091 x4090 hx4090 gL4091_5 kL4091 => ?_)
                  have gL4091_4 : cv_get L4091 4 = some (cv_i x4085) := kL4091 4 _ (by decide) (fun _ => rfl) gL4086_4
                  have gL4091_6 : cv_get L4091 6 = some (cv_i x4082) := kL4091 6 _ (by decide) (fun q => absurd q (by decide)) gL4086_6
                  have gL4091_3 : cv_get L4091 3 = some (cv_i x4068) := kL4091 3 _ (by decide) (fun q => absurd q (by decide)) gL4086_3
                  have gL4091_2 : cv_get L4091 2 = some (cv_i x4030) := kL4091 2 _ (by decide) (fun q => absurd q (by decide)) gL4086_2
                  have gL4091_0 : cv_get L4091 0 = some (cv_r 145) := kL4091 0 _ (by decide) (fun q => absurd q (by decide)) gL4086_0
                  have gL4091_1 : cv_get L4091 1 = some (cv_i n) := kL4091 1 _ (by decide) (fun q => absurd q (by decide)) gL4086_1
                  refine ex_incA oq_X12_nextOrder_106 (v := x4082) (m := (-1)) gL4091_6 (by decide) (by omega) (fun L4093 x4092 hx4092 gL4093_6 kL4093 => ?_)
                  have gL4093_5 : cv_get L4093 5 = some (cv_i x4090) := kL4093 5 _ (by decide) (fun _ => rfl) gL4091_5
                  have gL4093_4 : cv_get L4093 4 = some (cv_i x4085) := kL4093 4 _ (by decide) (fun q => absurd q (by decide)) gL4091_4
                  have gL4093_3 : cv_get L4093 3 = some (cv_i x4068) := kL4093 3 _ (by decide) (fun q => absurd q (by decide)) gL4091_3
                  have gL4093_2 : cv_get L4093 2 = some (cv_i x4030) := kL4093 2 _ (by decide) (fun q => absurd q (by decide)) gL4091_2
                  have gL4093_0 : cv_get L4093 0 = some (cv_r 145) := kL4093 0 _ (by decide) (fun q => absurd q (by decide)) gL4091_0
                  have gL4093_1 : cv_get L4093 1 = some (cv_i n) := kL4093 1 _ (by decide) (fun q => absurd q (by decide)) gL4091_1
                  refine ex_go oq_X12_nextOrder_109 (t := 76) rfl rfl ?_
                  refine ex_ilw oq_X12_nextOrder_76 gL4093_5 ?_
                  refine ex_ilw oq_X12_nextOrder_78 gL4093_6 ?_
                  refine ex_if oq_X12_nextOrder_80 (t := 112) rfl rfl (fun (c4094 : x4092.toInt ≤ x4090.toInt) => ?_) (fun (c4094 : ¬ (x4092.toInt ≤ x4090.toInt)) => ?_)
                  · refine ex_ic oq_X12_nextOrder_112 (m := 1) (by decide) (fun x4095 hx4095 => ?_)
                    refine ex_retb oq_X12_nextOrder_113 rfl (by omega) (by omega) (hQ x4095 h4089 Th4089 Fh4089 (by omega) (by omega) (fun _ => ⟨⟨?_, ?_⟩, ?_⟩))
                    · intro i hi hin
                      match i, hi, hin with
                      | 0, _, hin => omega
                      | 1, _, hin => omega
                      | 2, _, hin => omega
                      | 3, _, hin => omega
                    · intro i j hi hj hin hjn hij
                      match i, hi, hin, j, hj, hjn, hij with
                      | 0, _, hin, 0, _, hjn, hij => omega
                      | 0, _, hin, 1, _, hjn, hij => omega
                      | 0, _, hin, 2, _, hjn, hij => omega
                      | 0, _, hin, 3, _, hjn, hij => omega
                      | 1, _, hin, 0, _, hjn, hij => omega
                      | 1, _, hin, 1, _, hjn, hij => omega
                      | 1, _, hin, 2, _, hjn, hij => omega
                      | 1, _, hin, 3, _, hjn, hij => omega
                      | 2, _, hin, 0, _, hjn, hij => omega
                      | 2, _, hin, 1, _, hjn, hij => omega
                      | 2, _, hin, 2, _, hjn, hij => omega
                      | 2, _, hin, 3, _, hjn, hij => omega
                      | 3, _, hin, 0, _, hjn, hij => omega
                      | 3, _, hin, 1, _, hjn, hij => omega
                      | 3, _, hin, 2, _, hjn, hij => omega
                      | 3, _, hin, 3, _, hjn, hij => omega
                    · unfold od_r; omega
                  · exfalso; omega
              · exfalso; omega
          · exfalso; omega
        · refine ex_incA oq_X12_nextOrder_19 (v := x4030) (m := (-1)) gL4031_2 (by decide) (by omega) (fun L4097 x4096 hx4096 gL4097_2 kL4097 => ?_)
          have gL4097_0 : cv_get L4097 0 = some (cv_r 145) := kL4097 0 _ (by decide) (fun q => absurd q (by decide)) gL4031_0
          have gL4097_1 : cv_get L4097 1 = some (cv_i n) := kL4097 1 _ (by decide) (fun _ => rfl) gL4031_1
          refine ex_go oq_X12_nextOrder_22 (t := 4) rfl rfl ?_
          refine ex_il oq_X12_nextOrder_4 gL4097_2 ?_
          refine ex_if0 oq_X12_nextOrder_5 (t := 25) rfl rfl (fun (c4098 : x4096.toInt < 0) => ?_) (fun (c4098 : ¬ (x4096.toInt < 0)) => ?_)
          · exfalso; omega
          · refine ex_al oq_X12_nextOrder_8 gL4097_0 ?_
            refine ex_il oq_X12_nextOrder_9 gL4097_2 ?_
            refine ex_ia1 oq_X12_nextOrder_10 hT (k := 145) (d := 84) (j := 0) rfl rfl (by omega) (by omega) (fun x4099 hx4099 lx4099 ux4099 => ?_)
            refine ex_al oq_X12_nextOrder_11 gL4097_0 ?_
            refine ex_il oq_X12_nextOrder_12 gL4097_2 ?_
            refine ex_ic oq_X12_nextOrder_13 (m := 1) (by decide) (fun x4100 hx4100 => ?_)
            refine ex_add oq_X12_nextOrder_14 (by omega) (fun x4101 hx4101 => ?_)
            refine ex_ia1 oq_X12_nextOrder_15 hT (k := 145) (d := 84) (j := 1) rfl rfl (by omega) (by omega) (fun x4102 hx4102 lx4102 ux4102 => ?_)
            refine ex_if oq_X12_nextOrder_16 (t := 25) rfl rfl (fun (c4103 : x4099.toInt ≤ x4102.toInt) => ?_) (fun (c4103 : ¬ (x4099.toInt ≤ x4102.toInt)) => ?_)
            · refine ex_il oq_X12_nextOrder_25 gL4097_2 ?_
              refine ex_if0 oq_X12_nextOrder_26 (t := 31) rfl rfl (fun (c4104 : 0 ≤ x4096.toInt) => ?_) (fun (c4104 : ¬ (0 ≤ x4096.toInt)) => ?_)
              · refine ex_il oq_X12_nextOrder_31 gL4097_1 ?_
                refine ex_ic oq_X12_nextOrder_32 (m := 1) (by decide) (fun x4105 hx4105 => ?_)
                refine ex_sub oq_X12_nextOrder_33 (by omega) (fun x4106 hx4106 => ?_)
                refine ex_isA oq_X12_nextOrder_34 (fun L4107 gL4107_3 kL4107 => ?_)
                have gL4107_2 : cv_get L4107 2 = some (cv_i x4096) := kL4107 2 _ (by decide) (fun _ => rfl) gL4097_2
                have gL4107_0 : cv_get L4107 0 = some (cv_r 145) := kL4107 0 _ (by decide) (fun q => absurd q (by decide)) gL4097_0
                have gL4107_1 : cv_get L4107 1 = some (cv_i n) := kL4107 1 _ (by decide) (fun q => absurd q (by decide)) gL4097_1
                refine ex_al oq_X12_nextOrder_35 gL4107_0 ?_
                refine ex_il oq_X12_nextOrder_36 gL4107_3 ?_
                refine ex_ia1 oq_X12_nextOrder_37 hT (k := 145) (d := 84) (j := 3) rfl rfl (by omega) (by omega) (fun x4108 hx4108 lx4108 ux4108 => ?_)
                refine ex_al oq_X12_nextOrder_38 gL4107_0 ?_
                refine ex_il oq_X12_nextOrder_39 gL4107_2 ?_
                refine ex_ia1 oq_X12_nextOrder_40 hT (k := 145) (d := 84) (j := 0) rfl rfl (by omega) (by omega) (fun x4109 hx4109 lx4109 ux4109 => ?_)
                refine ex_if oq_X12_nextOrder_41 (t := 50) rfl rfl (fun (c4110 : x4109.toInt ≤ x4108.toInt) => ?_) (fun (c4110 : ¬ (x4109.toInt ≤ x4108.toInt)) => ?_)
                · refine ex_al oq_X12_nextOrder_50 gL4107_0 ?_
                  refine ex_il oq_X12_nextOrder_51 gL4107_2 ?_
                  refine ex_ia1 oq_X12_nextOrder_52 hT (k := 145) (d := 84) (j := 0) rfl rfl (by omega) (by omega) (fun x4111 hx4111 lx4111 ux4111 => ?_)
                  refine ex_iswA oq_X12_nextOrder_53 (fun L4112 gL4112_4 kL4112 => ?_)
                  have gL4112_3 : cv_get L4112 3 = some (cv_i x4106) := kL4112 3 _ (by decide) (fun _ => rfl) gL4107_3
                  have gL4112_2 : cv_get L4112 2 = some (cv_i x4096) := kL4112 2 _ (by decide) (fun q => absurd q (by decide)) gL4107_2
                  have gL4112_0 : cv_get L4112 0 = some (cv_r 145) := kL4112 0 _ (by decide) (fun q => absurd q (by decide)) gL4107_0
                  have gL4112_1 : cv_get L4112 1 = some (cv_i n) := kL4112 1 _ (by decide) (fun q => absurd q (by decide)) gL4107_1
                  refine ex_al oq_X12_nextOrder_55 gL4112_0 ?_
                  refine ex_il oq_X12_nextOrder_56 gL4112_2 ?_
                  refine ex_al oq_X12_nextOrder_57 gL4112_0 ?_
                  refine ex_il oq_X12_nextOrder_58 gL4112_3 ?_
                  refine ex_ia1 oq_X12_nextOrder_59 hT (k := 145) (d := 84) (j := 3) rfl rfl (by omega) (by omega) (fun x4113 hx4113 lx4113 ux4113 => ?_)
                  refine ex_iw1 oq_X12_nextOrder_60 hT (k := 145) (d := 84) (j := 0) rfl rfl (by omega) (by omega) ⟨by omega, by omega⟩ (fun h4114 Th4114 wh4114 => ?_)
                  have Fh4114 : cw_Fr cw_Ds cw_sh kk_X12_nextOrder.2.2.2.2.2.1 h h4114 := cw_Fr_tr Fh (cw_Fr_wrr wh4114 (k := 145) (d := 84) rfl rfl (by decide +kernel))
                  have eh4114_o0 : ri_at h4114 145 0 = x4113.toInt := ri_self wh4114
                  have eh4114_o1 : ri_at h4114 145 1 = ri_at h 145 1 := ri_ne wh4114 (.inr (by decide))
                  have eh4114_o2 : ri_at h4114 145 2 = ri_at h 145 2 := ri_ne wh4114 (.inr (by decide))
                  have eh4114_o3 : ri_at h4114 145 3 = ri_at h 145 3 := ri_ne wh4114 (.inr (by decide))
                  refine ex_al oq_X12_nextOrder_61 gL4112_0 ?_
                  refine ex_il oq_X12_nextOrder_62 gL4112_3 ?_
                  refine ex_ilw oq_X12_nextOrder_63 gL4112_4 ?_
                  refine ex_iw1 oq_X12_nextOrder_65 Th4114 (k := 145) (d := 84) (j := 3) rfl rfl (by omega) (by omega) ⟨by omega, by omega⟩ (fun h4115 Th4115 wh4115 => ?_)
                  have Fh4115 : cw_Fr cw_Ds cw_sh kk_X12_nextOrder.2.2.2.2.2.1 h h4115 := cw_Fr_tr Fh4114 (cw_Fr_wrr wh4115 (k := 145) (d := 84) rfl rfl (by decide +kernel))
                  have eh4115_o0 : ri_at h4115 145 0 = ri_at h4114 145 0 := ri_ne wh4115 (.inr (by decide))
                  have eh4115_o1 : ri_at h4115 145 1 = ri_at h4114 145 1 := ri_ne wh4115 (.inr (by decide))
                  have eh4115_o2 : ri_at h4115 145 2 = ri_at h4114 145 2 := ri_ne wh4115 (.inr (by decide))
                  have eh4115_o3 : ri_at h4115 145 3 = x4111.toInt := ri_self wh4115
                  refine ex_il oq_X12_nextOrder_66 gL4112_2 ?_
                  refine ex_ic oq_X12_nextOrder_67 (m := 1) (by decide) (fun x4116 hx4116 => ?_)
                  refine ex_add oq_X12_nextOrder_68 (by omega) (fun x4117 hx4117 => ?_)
                  refine ex_iswA oq_X12_nextOrder_69 (fun L4118 gL4118_5 kL4118 => ?_)
                  have gL4118_4 : cv_get L4118 4 = some (cv_i x4111) := kL4118 4 _ (by decide) (fun _ => rfl) gL4112_4
                  have gL4118_3 : cv_get L4118 3 = some (cv_i x4106) := kL4118 3 _ (by decide) (fun q => absurd q (by decide)) gL4112_3
                  have gL4118_2 : cv_get L4118 2 = some (cv_i x4096) := kL4118 2 _ (by decide) (fun q => absurd q (by decide)) gL4112_2
                  have gL4118_0 : cv_get L4118 0 = some (cv_r 145) := kL4118 0 _ (by decide) (fun q => absurd q (by decide)) gL4112_0
                  have gL4118_1 : cv_get L4118 1 = some (cv_i n) := kL4118 1 _ (by decide) (fun q => absurd q (by decide)) gL4112_1
                  refine ex_il oq_X12_nextOrder_71 gL4118_1 ?_
                  refine ex_ic oq_X12_nextOrder_72 (m := 1) (by decide) (fun x4119 hx4119 => ?_)
                  refine ex_sub oq_X12_nextOrder_73 (by omega) (fun x4120 hx4120 => ?_)
                  refine ex_iswA oq_X12_nextOrder_74 (fun L4121 gL4121_6 kL4121 => ?_)
                  have gL4121_5 : cv_get L4121 5 = some (cv_i x4117) := kL4121 5 _ (by decide) (fun _ => rfl) gL4118_5
                  have gL4121_4 : cv_get L4121 4 = some (cv_i x4111) := kL4121 4 _ (by decide) (fun q => absurd q (by decide)) gL4118_4
                  have gL4121_3 : cv_get L4121 3 = some (cv_i x4106) := kL4121 3 _ (by decide) (fun q => absurd q (by decide)) gL4118_3
                  have gL4121_2 : cv_get L4121 2 = some (cv_i x4096) := kL4121 2 _ (by decide) (fun q => absurd q (by decide)) gL4118_2
                  have gL4121_0 : cv_get L4121 0 = some (cv_r 145) := kL4121 0 _ (by decide) (fun q => absurd q (by decide)) gL4118_0
                  have gL4121_1 : cv_get L4121 1 = some (cv_i n) := kL4121 1 _ (by decide) (fun q => absurd q (by decide)) gL4118_1
                  refine ex_ilw oq_X12_nextOrder_76 gL4121_5 ?_
                  refine ex_ilw oq_X12_nextOrder_78 gL4121_6 ?_
                  refine ex_if oq_X12_nextOrder_80 (t := 112) rfl rfl (fun (c4122 : x4120.toInt ≤ x4117.toInt) => ?_) (fun (c4122 : ¬ (x4120.toInt ≤ x4117.toInt)) => ?_)
                  · exfalso; omega
                  · refine ex_al oq_X12_nextOrder_83 gL4121_0 ?_
                    refine ex_ilw oq_X12_nextOrder_84 gL4121_5 ?_
                    refine ex_ia1 oq_X12_nextOrder_86 Th4115 (k := 145) (d := 84) (j := 1) rfl rfl (by omega) (by omega) (fun x4123 hx4123 lx4123 ux4123 => ?_)
                    refine ex_iswA oq_X12_nextOrder_87 (fun L4124 gL4124_4 kL4124 => ?_)
                    have gL4124_6 : cv_get L4124 6 = some (cv_i x4120) := kL4124 6 _ (by decide) (fun q => absurd q (by decide)) gL4121_6
                    have gL4124_5 : cv_get L4124 5 = some (cv_i x4117) := kL4124 5 _ (by decide) (fun q => absurd q (by decide)) gL4121_5
                    have gL4124_3 : cv_get L4124 3 = some (cv_i x4106) := kL4124 3 _ (by decide) (fun _ => rfl) gL4121_3
                    have gL4124_2 : cv_get L4124 2 = some (cv_i x4096) := kL4124 2 _ (by decide) (fun q => absurd q (by decide)) gL4121_2
                    have gL4124_0 : cv_get L4124 0 = some (cv_r 145) := kL4124 0 _ (by decide) (fun q => absurd q (by decide)) gL4121_0
                    have gL4124_1 : cv_get L4124 1 = some (cv_i n) := kL4124 1 _ (by decide) (fun q => absurd q (by decide)) gL4121_1
                    refine ex_al oq_X12_nextOrder_89 gL4124_0 ?_
                    refine ex_ilw oq_X12_nextOrder_90 gL4124_5 ?_
                    refine ex_al oq_X12_nextOrder_92 gL4124_0 ?_
                    refine ex_ilw oq_X12_nextOrder_93 gL4124_6 ?_
                    refine ex_ia1 oq_X12_nextOrder_95 Th4115 (k := 145) (d := 84) (j := 3) rfl rfl (by omega) (by omega) (fun x4125 hx4125 lx4125 ux4125 => ?_)
                    refine ex_iw1 oq_X12_nextOrder_96 Th4115 (k := 145) (d := 84) (j := 1) rfl rfl (by omega) (by omega) ⟨by omega, by omega⟩ (fun h4126 Th4126 wh4126 => ?_)
                    have Fh4126 : cw_Fr cw_Ds cw_sh kk_X12_nextOrder.2.2.2.2.2.1 h h4126 := cw_Fr_tr Fh4115 (cw_Fr_wrr wh4126 (k := 145) (d := 84) rfl rfl (by decide +kernel))
                    have eh4126_o0 : ri_at h4126 145 0 = ri_at h4115 145 0 := ri_ne wh4126 (.inr (by decide))
                    have eh4126_o1 : ri_at h4126 145 1 = x4125.toInt := ri_self wh4126
                    have eh4126_o2 : ri_at h4126 145 2 = ri_at h4115 145 2 := ri_ne wh4126 (.inr (by decide))
                    have eh4126_o3 : ri_at h4126 145 3 = ri_at h4115 145 3 := ri_ne wh4126 (.inr (by decide))
                    refine ex_al oq_X12_nextOrder_97 gL4124_0 ?_
                    refine ex_ilw oq_X12_nextOrder_98 gL4124_6 ?_
                    refine ex_ilw oq_X12_nextOrder_100 gL4124_4 ?_
                    refine ex_iw1 oq_X12_nextOrder_102 Th4126 (k := 145) (d := 84) (j := 3) rfl rfl (by omega) (by omega) ⟨by omega, by omega⟩ (fun h4127 Th4127 wh4127 => ?_)
                    have Fh4127 : cw_Fr cw_Ds cw_sh kk_X12_nextOrder.2.2.2.2.2.1 h h4127 := cw_Fr_tr Fh4126 (cw_Fr_wrr wh4127 (k := 145) (d := 84) rfl rfl (by decide +kernel))
                    have eh4127_o0 : ri_at h4127 145 0 = ri_at h4126 145 0 := ri_ne wh4127 (.inr (by decide))
                    have eh4127_o1 : ri_at h4127 145 1 = ri_at h4126 145 1 := ri_ne wh4127 (.inr (by decide))
                    have eh4127_o2 : ri_at h4127 145 2 = ri_at h4126 145 2 := ri_ne wh4127 (.inr (by decide))
                    have eh4127_o3 : ri_at h4127 145 3 = x4123.toInt := ri_self wh4127
                    refine ex_incA oq_X12_nextOrder_103 (v := x4117) (m := 1) gL4124_5 (by decide) (by omega) (fun L4129 x4128 hx4128 gL4129_5 kL4129 => ?_)
                    have gL4129_4 : cv_get L4129 4 = some (cv_i x4123) := kL4129 4 _ (by decide) (fun _ => rfl) gL4124_4
                    have gL4129_6 : cv_get L4129 6 = some (cv_i x4120) := kL4129 6 _ (by decide) (fun q => absurd q (by decide)) gL4124_6
                    have gL4129_3 : cv_get L4129 3 = some (cv_i x4106) := kL4129 3 _ (by decide) (fun q => absurd q (by decide)) gL4124_3
                    have gL4129_2 : cv_get L4129 2 = some (cv_i x4096) := kL4129 2 _ (by decide) (fun q => absurd q (by decide)) gL4124_2
                    have gL4129_0 : cv_get L4129 0 = some (cv_r 145) := kL4129 0 _ (by decide) (fun q => absurd q (by decide)) gL4124_0
                    have gL4129_1 : cv_get L4129 1 = some (cv_i n) := kL4129 1 _ (by decide) (fun q => absurd q (by decide)) gL4124_1
                    refine ex_incA oq_X12_nextOrder_106 (v := x4120) (m := (-1)) gL4129_6 (by decide) (by omega) (fun L4131 x4130 hx4130 gL4131_6 kL4131 => ?_)
                    have gL4131_5 : cv_get L4131 5 = some (cv_i x4128) := kL4131 5 _ (by decide) (fun _ => rfl) gL4129_5
                    have gL4131_4 : cv_get L4131 4 = some (cv_i x4123) := kL4131 4 _ (by decide) (fun q => absurd q (by decide)) gL4129_4
                    have gL4131_3 : cv_get L4131 3 = some (cv_i x4106) := kL4131 3 _ (by decide) (fun q => absurd q (by decide)) gL4129_3
                    have gL4131_2 : cv_get L4131 2 = some (cv_i x4096) := kL4131 2 _ (by decide) (fun q => absurd q (by decide)) gL4129_2
                    have gL4131_0 : cv_get L4131 0 = some (cv_r 145) := kL4131 0 _ (by decide) (fun q => absurd q (by decide)) gL4129_0
                    have gL4131_1 : cv_get L4131 1 = some (cv_i n) := kL4131 1 _ (by decide) (fun q => absurd q (by decide)) gL4129_1
                    refine ex_go oq_X12_nextOrder_109 (t := 76) rfl rfl ?_
                    refine ex_ilw oq_X12_nextOrder_76 gL4131_5 ?_
                    refine ex_ilw oq_X12_nextOrder_78 gL4131_6 ?_
                    refine ex_if oq_X12_nextOrder_80 (t := 112) rfl rfl (fun (c4132 : x4130.toInt ≤ x4128.toInt) => ?_) (fun (c4132 : ¬ (x4130.toInt ≤ x4128.toInt)) => ?_)
                    · refine ex_ic oq_X12_nextOrder_112 (m := 1) (by decide) (fun x4133 hx4133 => ?_)
                      refine ex_retb oq_X12_nextOrder_113 rfl (by omega) (by omega) (hQ x4133 h4127 Th4127 Fh4127 (by omega) (by omega) (fun _ => ⟨⟨?_, ?_⟩, ?_⟩))
                      · intro i hi hin
                        match i, hi, hin with
                        | 0, _, hin => omega
                        | 1, _, hin => omega
                        | 2, _, hin => omega
                        | 3, _, hin => omega
                      · intro i j hi hj hin hjn hij
                        match i, hi, hin, j, hj, hjn, hij with
                        | 0, _, hin, 0, _, hjn, hij => omega
                        | 0, _, hin, 1, _, hjn, hij => omega
                        | 0, _, hin, 2, _, hjn, hij => omega
                        | 0, _, hin, 3, _, hjn, hij => omega
                        | 1, _, hin, 0, _, hjn, hij => omega
                        | 1, _, hin, 1, _, hjn, hij => omega
                        | 1, _, hin, 2, _, hjn, hij => omega
                        | 1, _, hin, 3, _, hjn, hij => omega
                        | 2, _, hin, 0, _, hjn, hij => omega
                        | 2, _, hin, 1, _, hjn, hij => omega
                        | 2, _, hin, 2, _, hjn, hij => omega
                        | 2, _, hin, 3, _, hjn, hij => omega
                        | 3, _, hin, 0, _, hjn, hij => omega
                        | 3, _, hin, 1, _, hjn, hij => omega
                        | 3, _, hin, 2, _, hjn, hij => omega
                        | 3, _, hin, 3, _, hjn, hij => omega
                      · unfold od_r; omega
                    · exfalso; omega
                · refine ex_incA oq_X12_nextOrder_44 (v := x4106) (m := (-1)) gL4107_3 (by decide) (by omega) (fun L4135 x4134 hx4134 gL4135_3 kL4135 => ?_)
                  have gL4135_2 : cv_get L4135 2 = some (cv_i x4096) := kL4135 2 _ (by decide) (fun _ => rfl) gL4107_2
                  have gL4135_0 : cv_get L4135 0 = some (cv_r 145) := kL4135 0 _ (by decide) (fun q => absurd q (by decide)) gL4107_0
                  have gL4135_1 : cv_get L4135 1 = some (cv_i n) := kL4135 1 _ (by decide) (fun q => absurd q (by decide)) gL4107_1
                  refine ex_go oq_X12_nextOrder_47 (t := 35) rfl rfl ?_
                  refine ex_al oq_X12_nextOrder_35 gL4135_0 ?_
                  refine ex_il oq_X12_nextOrder_36 gL4135_3 ?_
                  refine ex_ia1 oq_X12_nextOrder_37 hT (k := 145) (d := 84) (j := 2) rfl rfl (by omega) (by omega) (fun x4136 hx4136 lx4136 ux4136 => ?_)
                  refine ex_al oq_X12_nextOrder_38 gL4135_0 ?_
                  refine ex_il oq_X12_nextOrder_39 gL4135_2 ?_
                  refine ex_ia1 oq_X12_nextOrder_40 hT (k := 145) (d := 84) (j := 0) rfl rfl (by omega) (by omega) (fun x4137 hx4137 lx4137 ux4137 => ?_)
                  refine ex_if oq_X12_nextOrder_41 (t := 50) rfl rfl (fun (c4138 : x4137.toInt ≤ x4136.toInt) => ?_) (fun (c4138 : ¬ (x4137.toInt ≤ x4136.toInt)) => ?_)
                  · refine ex_al oq_X12_nextOrder_50 gL4135_0 ?_
                    refine ex_il oq_X12_nextOrder_51 gL4135_2 ?_
                    refine ex_ia1 oq_X12_nextOrder_52 hT (k := 145) (d := 84) (j := 0) rfl rfl (by omega) (by omega) (fun x4139 hx4139 lx4139 ux4139 => ?_)
                    refine ex_iswA oq_X12_nextOrder_53 (fun L4140 gL4140_4 kL4140 => ?_)
                    have gL4140_3 : cv_get L4140 3 = some (cv_i x4134) := kL4140 3 _ (by decide) (fun _ => rfl) gL4135_3
                    have gL4140_2 : cv_get L4140 2 = some (cv_i x4096) := kL4140 2 _ (by decide) (fun q => absurd q (by decide)) gL4135_2
                    have gL4140_0 : cv_get L4140 0 = some (cv_r 145) := kL4140 0 _ (by decide) (fun q => absurd q (by decide)) gL4135_0
                    have gL4140_1 : cv_get L4140 1 = some (cv_i n) := kL4140 1 _ (by decide) (fun q => absurd q (by decide)) gL4135_1
                    refine ex_al oq_X12_nextOrder_55 gL4140_0 ?_
                    refine ex_il oq_X12_nextOrder_56 gL4140_2 ?_
                    refine ex_al oq_X12_nextOrder_57 gL4140_0 ?_
                    refine ex_il oq_X12_nextOrder_58 gL4140_3 ?_
                    refine ex_ia1 oq_X12_nextOrder_59 hT (k := 145) (d := 84) (j := 2) rfl rfl (by omega) (by omega) (fun x4141 hx4141 lx4141 ux4141 => ?_)
                    refine ex_iw1 oq_X12_nextOrder_60 hT (k := 145) (d := 84) (j := 0) rfl rfl (by omega) (by omega) ⟨by omega, by omega⟩ (fun h4142 Th4142 wh4142 => ?_)
                    have Fh4142 : cw_Fr cw_Ds cw_sh kk_X12_nextOrder.2.2.2.2.2.1 h h4142 := cw_Fr_tr Fh (cw_Fr_wrr wh4142 (k := 145) (d := 84) rfl rfl (by decide +kernel))
                    have eh4142_o0 : ri_at h4142 145 0 = x4141.toInt := ri_self wh4142
                    have eh4142_o1 : ri_at h4142 145 1 = ri_at h 145 1 := ri_ne wh4142 (.inr (by decide))
                    have eh4142_o2 : ri_at h4142 145 2 = ri_at h 145 2 := ri_ne wh4142 (.inr (by decide))
                    have eh4142_o3 : ri_at h4142 145 3 = ri_at h 145 3 := ri_ne wh4142 (.inr (by decide))
                    refine ex_al oq_X12_nextOrder_61 gL4140_0 ?_
                    refine ex_il oq_X12_nextOrder_62 gL4140_3 ?_
                    refine ex_ilw oq_X12_nextOrder_63 gL4140_4 ?_
                    refine ex_iw1 oq_X12_nextOrder_65 Th4142 (k := 145) (d := 84) (j := 2) rfl rfl (by omega) (by omega) ⟨by omega, by omega⟩ (fun h4143 Th4143 wh4143 => ?_)
                    have Fh4143 : cw_Fr cw_Ds cw_sh kk_X12_nextOrder.2.2.2.2.2.1 h h4143 := cw_Fr_tr Fh4142 (cw_Fr_wrr wh4143 (k := 145) (d := 84) rfl rfl (by decide +kernel))
                    have eh4143_o0 : ri_at h4143 145 0 = ri_at h4142 145 0 := ri_ne wh4143 (.inr (by decide))
                    have eh4143_o1 : ri_at h4143 145 1 = ri_at h4142 145 1 := ri_ne wh4143 (.inr (by decide))
                    have eh4143_o2 : ri_at h4143 145 2 = x4139.toInt := ri_self wh4143
                    have eh4143_o3 : ri_at h4143 145 3 = ri_at h4142 145 3 := ri_ne wh4143 (.inr (by decide))
                    refine ex_il oq_X12_nextOrder_66 gL4140_2 ?_
                    refine ex_ic oq_X12_nextOrder_67 (m := 1) (by decide) (fun x4144 hx4144 => ?_)
                    refine ex_add oq_X12_nextOrder_68 (by omega) (fun x4145 hx4145 => ?_)
                    refine ex_iswA oq_X12_nextOrder_69 (fun L4146 gL4146_5 kL4146 => ?_)
                    have gL4146_4 : cv_get L4146 4 = some (cv_i x4139) := kL4146 4 _ (by decide) (fun _ => rfl) gL4140_4
                    have gL4146_3 : cv_get L4146 3 = some (cv_i x4134) := kL4146 3 _ (by decide) (fun q => absurd q (by decide)) gL4140_3
                    have gL4146_2 : cv_get L4146 2 = some (cv_i x4096) := kL4146 2 _ (by decide) (fun q => absurd q (by decide)) gL4140_2
                    have gL4146_0 : cv_get L4146 0 = some (cv_r 145) := kL4146 0 _ (by decide) (fun q => absurd q (by decide)) gL4140_0
                    have gL4146_1 : cv_get L4146 1 = some (cv_i n) := kL4146 1 _ (by decide) (fun q => absurd q (by decide)) gL4140_1
                    refine ex_il oq_X12_nextOrder_71 gL4146_1 ?_
                    refine ex_ic oq_X12_nextOrder_72 (m := 1) (by decide) (fun x4147 hx4147 => ?_)
                    refine ex_sub oq_X12_nextOrder_73 (by omega) (fun x4148 hx4148 => ?_)
                    refine ex_iswA oq_X12_nextOrder_74 (fun L4149 gL4149_6 kL4149 => ?_)
                    have gL4149_5 : cv_get L4149 5 = some (cv_i x4145) := kL4149 5 _ (by decide) (fun _ => rfl) gL4146_5
                    have gL4149_4 : cv_get L4149 4 = some (cv_i x4139) := kL4149 4 _ (by decide) (fun q => absurd q (by decide)) gL4146_4
                    have gL4149_3 : cv_get L4149 3 = some (cv_i x4134) := kL4149 3 _ (by decide) (fun q => absurd q (by decide)) gL4146_3
                    have gL4149_2 : cv_get L4149 2 = some (cv_i x4096) := kL4149 2 _ (by decide) (fun q => absurd q (by decide)) gL4146_2
                    have gL4149_0 : cv_get L4149 0 = some (cv_r 145) := kL4149 0 _ (by decide) (fun q => absurd q (by decide)) gL4146_0
                    have gL4149_1 : cv_get L4149 1 = some (cv_i n) := kL4149 1 _ (by decide) (fun q => absurd q (by decide)) gL4146_1
                    refine ex_ilw oq_X12_nextOrder_76 gL4149_5 ?_
                    refine ex_ilw oq_X12_nextOrder_78 gL4149_6 ?_
                    refine ex_if oq_X12_nextOrder_80 (t := 112) rfl rfl (fun (c4150 : x4148.toInt ≤ x4145.toInt) => ?_) (fun (c4150 : ¬ (x4148.toInt ≤ x4145.toInt)) => ?_)
                    · exfalso; omega
                    · refine ex_al oq_X12_nextOrder_83 gL4149_0 ?_
                      refine ex_ilw oq_X12_nextOrder_84 gL4149_5 ?_
                      refine ex_ia1 oq_X12_nextOrder_86 Th4143 (k := 145) (d := 84) (j := 1) rfl rfl (by omega) (by omega) (fun x4151 hx4151 lx4151 ux4151 => ?_)
                      refine ex_iswA oq_X12_nextOrder_87 (fun L4152 gL4152_4 kL4152 => ?_)
                      have gL4152_6 : cv_get L4152 6 = some (cv_i x4148) := kL4152 6 _ (by decide) (fun q => absurd q (by decide)) gL4149_6
                      have gL4152_5 : cv_get L4152 5 = some (cv_i x4145) := kL4152 5 _ (by decide) (fun q => absurd q (by decide)) gL4149_5
                      have gL4152_3 : cv_get L4152 3 = some (cv_i x4134) := kL4152 3 _ (by decide) (fun _ => rfl) gL4149_3
                      have gL4152_2 : cv_get L4152 2 = some (cv_i x4096) := kL4152 2 _ (by decide) (fun q => absurd q (by decide)) gL4149_2
                      have gL4152_0 : cv_get L4152 0 = some (cv_r 145) := kL4152 0 _ (by decide) (fun q => absurd q (by decide)) gL4149_0
                      have gL4152_1 : cv_get L4152 1 = some (cv_i n) := kL4152 1 _ (by decide) (fun q => absurd q (by decide)) gL4149_1
                      refine ex_al oq_X12_nextOrder_89 gL4152_0 ?_
                      refine ex_ilw oq_X12_nextOrder_90 gL4152_5 ?_
                      refine ex_al oq_X12_nextOrder_92 gL4152_0 ?_
                      refine ex_ilw oq_X12_nextOrder_93 gL4152_6 ?_
                      refine ex_ia1 oq_X12_nextOrder_95 Th4143 (k := 145) (d := 84) (j := 3) rfl rfl (by omega) (by omega) (fun x4153 hx4153 lx4153 ux4153 => ?_)
                      refine ex_iw1 oq_X12_nextOrder_96 Th4143 (k := 145) (d := 84) (j := 1) rfl rfl (by omega) (by omega) ⟨by omega, by omega⟩ (fun h4154 Th4154 wh4154 => ?_)
                      have Fh4154 : cw_Fr cw_Ds cw_sh kk_X12_nextOrder.2.2.2.2.2.1 h h4154 := cw_Fr_tr Fh4143 (cw_Fr_wrr wh4154 (k := 145) (d := 84) rfl rfl (by decide +kernel))
                      have eh4154_o0 : ri_at h4154 145 0 = ri_at h4143 145 0 := ri_ne wh4154 (.inr (by decide))
                      have eh4154_o1 : ri_at h4154 145 1 = x4153.toInt := ri_self wh4154
                      have eh4154_o2 : ri_at h4154 145 2 = ri_at h4143 145 2 := ri_ne wh4154 (.inr (by decide))
                      have eh4154_o3 : ri_at h4154 145 3 = ri_at h4143 145 3 := ri_ne wh4154 (.inr (by decide))
                      refine ex_al oq_X12_nextOrder_97 gL4152_0 ?_
                      refine ex_ilw oq_X12_nextOrder_98 gL4152_6 ?_
                      refine ex_ilw oq_X12_nextOrder_100 gL4152_4 ?_
                      refine ex_iw1 oq_X12_nextOrder_102 Th4154 (k := 145) (d := 84) (j := 3) rfl rfl (by omega) (by omega) ⟨by omega, by omega⟩ (fun h4155 Th4155 wh4155 => ?_)
                      have Fh4155 : cw_Fr cw_Ds cw_sh kk_X12_nextOrder.2.2.2.2.2.1 h h4155 := cw_Fr_tr Fh4154 (cw_Fr_wrr wh4155 (k := 145) (d := 84) rfl rfl (by decide +kernel))
                      have eh4155_o0 : ri_at h4155 145 0 = ri_at h4154 145 0 := ri_ne wh4155 (.inr (by decide))
                      have eh4155_o1 : ri_at h4155 145 1 = ri_at h4154 145 1 := ri_ne wh4155 (.inr (by decide))
                      have eh4155_o2 : ri_at h4155 145 2 = ri_at h4154 145 2 := ri_ne wh4155 (.inr (by decide))
                      have eh4155_o3 : ri_at h4155 145 3 = x4151.toInt := ri_self wh4155
                      refine ex_incA oq_X12_nextOrder_103 (v := x4145) (m := 1) gL4152_5 (by decide) (by omega) (fun L4157 x4156 hx4156 gL4157_5 kL4157 => ?_)
                      have gL4157_4 : cv_get L4157 4 = some (cv_i x4151) := kL4157 4 _ (by decide) (fun _ => rfl) gL4152_4
                      have gL4157_6 : cv_get L4157 6 = some (cv_i x4148) := kL4157 6 _ (by decide) (fun q => absurd q (by decide)) gL4152_6
                      have gL4157_3 : cv_get L4157 3 = some (cv_i x4134) := kL4157 3 _ (by decide) (fun q => absurd q (by decide)) gL4152_3
                      have gL4157_2 : cv_get L4157 2 = some (cv_i x4096) := kL4157 2 _ (by decide) (fun q => absurd q (by decide)) gL4152_2
                      have gL4157_0 : cv_get L4157 0 = some (cv_r 145) := kL4157 0 _ (by decide) (fun q => absurd q (by decide)) gL4152_0
                      have gL4157_1 : cv_get L4157 1 = some (cv_i n) := kL4157 1 _ (by decide) (fun q => absurd q (by decide)) gL4152_1
                      refine ex_incA oq_X12_nextOrder_106 (v := x4148) (m := (-1)) gL4157_6 (by decide) (by omega) (fun L4159 x4158 hx4158 gL4159_6 kL4159 => ?_)
                      have gL4159_5 : cv_get L4159 5 = some (cv_i x4156) := kL4159 5 _ (by decide) (fun _ => rfl) gL4157_5
                      have gL4159_4 : cv_get L4159 4 = some (cv_i x4151) := kL4159 4 _ (by decide) (fun q => absurd q (by decide)) gL4157_4
                      have gL4159_3 : cv_get L4159 3 = some (cv_i x4134) := kL4159 3 _ (by decide) (fun q => absurd q (by decide)) gL4157_3
                      have gL4159_2 : cv_get L4159 2 = some (cv_i x4096) := kL4159 2 _ (by decide) (fun q => absurd q (by decide)) gL4157_2
                      have gL4159_0 : cv_get L4159 0 = some (cv_r 145) := kL4159 0 _ (by decide) (fun q => absurd q (by decide)) gL4157_0
                      have gL4159_1 : cv_get L4159 1 = some (cv_i n) := kL4159 1 _ (by decide) (fun q => absurd q (by decide)) gL4157_1
                      refine ex_go oq_X12_nextOrder_109 (t := 76) rfl rfl ?_
                      refine ex_ilw oq_X12_nextOrder_76 gL4159_5 ?_
                      refine ex_ilw oq_X12_nextOrder_78 gL4159_6 ?_
                      refine ex_if oq_X12_nextOrder_80 (t := 112) rfl rfl (fun (c4160 : x4158.toInt ≤ x4156.toInt) => ?_) (fun (c4160 : ¬ (x4158.toInt ≤ x4156.toInt)) => ?_)
                      · refine ex_ic oq_X12_nextOrder_112 (m := 1) (by decide) (fun x4161 hx4161 => ?_)
                        refine ex_retb oq_X12_nextOrder_113 rfl (by omega) (by omega) (hQ x4161 h4155 Th4155 Fh4155 (by omega) (by omega) (fun _ => ⟨⟨?_, ?_⟩, ?_⟩))
                        · intro i hi hin
                          match i, hi, hin with
                          | 0, _, hin => omega
                          | 1, _, hin => omega
                          | 2, _, hin => omega
                          | 3, _, hin => omega
                        · intro i j hi hj hin hjn hij
                          match i, hi, hin, j, hj, hjn, hij with
                          | 0, _, hin, 0, _, hjn, hij => omega
                          | 0, _, hin, 1, _, hjn, hij => omega
                          | 0, _, hin, 2, _, hjn, hij => omega
                          | 0, _, hin, 3, _, hjn, hij => omega
                          | 1, _, hin, 0, _, hjn, hij => omega
                          | 1, _, hin, 1, _, hjn, hij => omega
                          | 1, _, hin, 2, _, hjn, hij => omega
                          | 1, _, hin, 3, _, hjn, hij => omega
                          | 2, _, hin, 0, _, hjn, hij => omega
                          | 2, _, hin, 1, _, hjn, hij => omega
                          | 2, _, hin, 2, _, hjn, hij => omega
                          | 2, _, hin, 3, _, hjn, hij => omega
                          | 3, _, hin, 0, _, hjn, hij => omega
                          | 3, _, hin, 1, _, hjn, hij => omega
                          | 3, _, hin, 2, _, hjn, hij => omega
                          | 3, _, hin, 3, _, hjn, hij => omega
                        · unfold od_r; omega
                      · exfalso; omega
                  · refine ex_incA oq_X12_nextOrder_44 (v := x4134) (m := (-1)) gL4135_3 (by decide) (by omega) (fun L4163 x4162 hx4162 gL4163_3 kL4163 => ?_)
                    have gL4163_2 : cv_get L4163 2 = some (cv_i x4096) := kL4163 2 _ (by decide) (fun _ => rfl) gL4135_2
                    have gL4163_0 : cv_get L4163 0 = some (cv_r 145) := kL4163 0 _ (by decide) (fun q => absurd q (by decide)) gL4135_0
                    have gL4163_1 : cv_get L4163 1 = some (cv_i n) := kL4163 1 _ (by decide) (fun q => absurd q (by decide)) gL4135_1
                    refine ex_go oq_X12_nextOrder_47 (t := 35) rfl rfl ?_
                    refine ex_al oq_X12_nextOrder_35 gL4163_0 ?_
                    refine ex_il oq_X12_nextOrder_36 gL4163_3 ?_
                    refine ex_ia1 oq_X12_nextOrder_37 hT (k := 145) (d := 84) (j := 1) rfl rfl (by omega) (by omega) (fun x4164 hx4164 lx4164 ux4164 => ?_)
                    refine ex_al oq_X12_nextOrder_38 gL4163_0 ?_
                    refine ex_il oq_X12_nextOrder_39 gL4163_2 ?_
                    refine ex_ia1 oq_X12_nextOrder_40 hT (k := 145) (d := 84) (j := 0) rfl rfl (by omega) (by omega) (fun x4165 hx4165 lx4165 ux4165 => ?_)
                    refine ex_if oq_X12_nextOrder_41 (t := 50) rfl rfl (fun (c4166 : x4165.toInt ≤ x4164.toInt) => ?_) (fun (c4166 : ¬ (x4165.toInt ≤ x4164.toInt)) => ?_)
                    · refine ex_al oq_X12_nextOrder_50 gL4163_0 ?_
                      refine ex_il oq_X12_nextOrder_51 gL4163_2 ?_
                      refine ex_ia1 oq_X12_nextOrder_52 hT (k := 145) (d := 84) (j := 0) rfl rfl (by omega) (by omega) (fun x4167 hx4167 lx4167 ux4167 => ?_)
                      refine ex_iswA oq_X12_nextOrder_53 (fun L4168 gL4168_4 kL4168 => ?_)
                      have gL4168_3 : cv_get L4168 3 = some (cv_i x4162) := kL4168 3 _ (by decide) (fun _ => rfl) gL4163_3
                      have gL4168_2 : cv_get L4168 2 = some (cv_i x4096) := kL4168 2 _ (by decide) (fun q => absurd q (by decide)) gL4163_2
                      have gL4168_0 : cv_get L4168 0 = some (cv_r 145) := kL4168 0 _ (by decide) (fun q => absurd q (by decide)) gL4163_0
                      have gL4168_1 : cv_get L4168 1 = some (cv_i n) := kL4168 1 _ (by decide) (fun q => absurd q (by decide)) gL4163_1
                      refine ex_al oq_X12_nextOrder_55 gL4168_0 ?_
                      refine ex_il oq_X12_nextOrder_56 gL4168_2 ?_
                      refine ex_al oq_X12_nextOrder_57 gL4168_0 ?_
                      refine ex_il oq_X12_nextOrder_58 gL4168_3 ?_
                      refine ex_ia1 oq_X12_nextOrder_59 hT (k := 145) (d := 84) (j := 1) rfl rfl (by omega) (by omega) (fun x4169 hx4169 lx4169 ux4169 => ?_)
                      refine ex_iw1 oq_X12_nextOrder_60 hT (k := 145) (d := 84) (j := 0) rfl rfl (by omega) (by omega) ⟨by omega, by omega⟩ (fun h4170 Th4170 wh4170 => ?_)
                      have Fh4170 : cw_Fr cw_Ds cw_sh kk_X12_nextOrder.2.2.2.2.2.1 h h4170 := cw_Fr_tr Fh (cw_Fr_wrr wh4170 (k := 145) (d := 84) rfl rfl (by decide +kernel))
                      have eh4170_o0 : ri_at h4170 145 0 = x4169.toInt := ri_self wh4170
                      have eh4170_o1 : ri_at h4170 145 1 = ri_at h 145 1 := ri_ne wh4170 (.inr (by decide))
                      have eh4170_o2 : ri_at h4170 145 2 = ri_at h 145 2 := ri_ne wh4170 (.inr (by decide))
                      have eh4170_o3 : ri_at h4170 145 3 = ri_at h 145 3 := ri_ne wh4170 (.inr (by decide))
                      refine ex_al oq_X12_nextOrder_61 gL4168_0 ?_
                      refine ex_il oq_X12_nextOrder_62 gL4168_3 ?_
                      refine ex_ilw oq_X12_nextOrder_63 gL4168_4 ?_
                      refine ex_iw1 oq_X12_nextOrder_65 Th4170 (k := 145) (d := 84) (j := 1) rfl rfl (by omega) (by omega) ⟨by omega, by omega⟩ (fun h4171 Th4171 wh4171 => ?_)
                      have Fh4171 : cw_Fr cw_Ds cw_sh kk_X12_nextOrder.2.2.2.2.2.1 h h4171 := cw_Fr_tr Fh4170 (cw_Fr_wrr wh4171 (k := 145) (d := 84) rfl rfl (by decide +kernel))
                      have eh4171_o0 : ri_at h4171 145 0 = ri_at h4170 145 0 := ri_ne wh4171 (.inr (by decide))
                      have eh4171_o1 : ri_at h4171 145 1 = x4167.toInt := ri_self wh4171
                      have eh4171_o2 : ri_at h4171 145 2 = ri_at h4170 145 2 := ri_ne wh4171 (.inr (by decide))
                      have eh4171_o3 : ri_at h4171 145 3 = ri_at h4170 145 3 := ri_ne wh4171 (.inr (by decide))
                      refine ex_il oq_X12_nextOrder_66 gL4168_2 ?_
                      refine ex_ic oq_X12_nextOrder_67 (m := 1) (by decide) (fun x4172 hx4172 => ?_)
                      refine ex_add oq_X12_nextOrder_68 (by omega) (fun x4173 hx4173 => ?_)
                      refine ex_iswA oq_X12_nextOrder_69 (fun L4174 gL4174_5 kL4174 => ?_)
                      have gL4174_4 : cv_get L4174 4 = some (cv_i x4167) := kL4174 4 _ (by decide) (fun _ => rfl) gL4168_4
                      have gL4174_3 : cv_get L4174 3 = some (cv_i x4162) := kL4174 3 _ (by decide) (fun q => absurd q (by decide)) gL4168_3
                      have gL4174_2 : cv_get L4174 2 = some (cv_i x4096) := kL4174 2 _ (by decide) (fun q => absurd q (by decide)) gL4168_2
                      have gL4174_0 : cv_get L4174 0 = some (cv_r 145) := kL4174 0 _ (by decide) (fun q => absurd q (by decide)) gL4168_0
                      have gL4174_1 : cv_get L4174 1 = some (cv_i n) := kL4174 1 _ (by decide) (fun q => absurd q (by decide)) gL4168_1
                      refine ex_il oq_X12_nextOrder_71 gL4174_1 ?_
                      refine ex_ic oq_X12_nextOrder_72 (m := 1) (by decide) (fun x4175 hx4175 => ?_)
                      refine ex_sub oq_X12_nextOrder_73 (by omega) (fun x4176 hx4176 => ?_)
                      refine ex_iswA oq_X12_nextOrder_74 (fun L4177 gL4177_6 kL4177 => ?_)
                      have gL4177_5 : cv_get L4177 5 = some (cv_i x4173) := kL4177 5 _ (by decide) (fun _ => rfl) gL4174_5
                      have gL4177_4 : cv_get L4177 4 = some (cv_i x4167) := kL4177 4 _ (by decide) (fun q => absurd q (by decide)) gL4174_4
                      have gL4177_3 : cv_get L4177 3 = some (cv_i x4162) := kL4177 3 _ (by decide) (fun q => absurd q (by decide)) gL4174_3
                      have gL4177_2 : cv_get L4177 2 = some (cv_i x4096) := kL4177 2 _ (by decide) (fun q => absurd q (by decide)) gL4174_2
                      have gL4177_0 : cv_get L4177 0 = some (cv_r 145) := kL4177 0 _ (by decide) (fun q => absurd q (by decide)) gL4174_0
                      have gL4177_1 : cv_get L4177 1 = some (cv_i n) := kL4177 1 _ (by decide) (fun q => absurd q (by decide)) gL4174_1
                      refine ex_ilw oq_X12_nextOrder_76 gL4177_5 ?_
                      refine ex_ilw oq_X12_nextOrder_78 gL4177_6 ?_
                      refine ex_if oq_X12_nextOrder_80 (t := 112) rfl rfl (fun (c4178 : x4176.toInt ≤ x4173.toInt) => ?_) (fun (c4178 : ¬ (x4176.toInt ≤ x4173.toInt)) => ?_)
                      · exfalso; omega
                      · refine ex_al oq_X12_nextOrder_83 gL4177_0 ?_
                        refine ex_ilw oq_X12_nextOrder_84 gL4177_5 ?_
                        refine ex_ia1 oq_X12_nextOrder_86 Th4171 (k := 145) (d := 84) (j := 1) rfl rfl (by omega) (by omega) (fun x4179 hx4179 lx4179 ux4179 => ?_)
                        refine ex_iswA oq_X12_nextOrder_87 (fun L4180 gL4180_4 kL4180 => ?_)
                        have gL4180_6 : cv_get L4180 6 = some (cv_i x4176) := kL4180 6 _ (by decide) (fun q => absurd q (by decide)) gL4177_6
                        have gL4180_5 : cv_get L4180 5 = some (cv_i x4173) := kL4180 5 _ (by decide) (fun q => absurd q (by decide)) gL4177_5
                        have gL4180_3 : cv_get L4180 3 = some (cv_i x4162) := kL4180 3 _ (by decide) (fun _ => rfl) gL4177_3
                        have gL4180_2 : cv_get L4180 2 = some (cv_i x4096) := kL4180 2 _ (by decide) (fun q => absurd q (by decide)) gL4177_2
                        have gL4180_0 : cv_get L4180 0 = some (cv_r 145) := kL4180 0 _ (by decide) (fun q => absurd q (by decide)) gL4177_0
                        have gL4180_1 : cv_get L4180 1 = some (cv_i n) := kL4180 1 _ (by decide) (fun q => absurd q (by decide)) gL4177_1
                        refine ex_al oq_X12_nextOrder_89 gL4180_0 ?_
                        refine ex_ilw oq_X12_nextOrder_90 gL4180_5 ?_
                        refine ex_al oq_X12_nextOrder_92 gL4180_0 ?_
                        refine ex_ilw oq_X12_nextOrder_93 gL4180_6 ?_
                        refine ex_ia1 oq_X12_nextOrder_95 Th4171 (k := 145) (d := 84) (j := 3) rfl rfl (by omega) (by omega) (fun x4181 hx4181 lx4181 ux4181 => ?_)
                        refine ex_iw1 oq_X12_nextOrder_96 Th4171 (k := 145) (d := 84) (j := 1) rfl rfl (by omega) (by omega) ⟨by omega, by omega⟩ (fun h4182 Th4182 wh4182 => ?_)
                        have Fh4182 : cw_Fr cw_Ds cw_sh kk_X12_nextOrder.2.2.2.2.2.1 h h4182 := cw_Fr_tr Fh4171 (cw_Fr_wrr wh4182 (k := 145) (d := 84) rfl rfl (by decide +kernel))
                        have eh4182_o0 : ri_at h4182 145 0 = ri_at h4171 145 0 := ri_ne wh4182 (.inr (by decide))
                        have eh4182_o1 : ri_at h4182 145 1 = x4181.toInt := ri_self wh4182
                        have eh4182_o2 : ri_at h4182 145 2 = ri_at h4171 145 2 := ri_ne wh4182 (.inr (by decide))
                        have eh4182_o3 : ri_at h4182 145 3 = ri_at h4171 145 3 := ri_ne wh4182 (.inr (by decide))
                        refine ex_al oq_X12_nextOrder_97 gL4180_0 ?_
                        refine ex_ilw oq_X12_nextOrder_98 gL4180_6 ?_
                        refine ex_ilw oq_X12_nextOrder_100 gL4180_4 ?_
                        refine ex_iw1 oq_X12_nextOrder_102 Th4182 (k := 145) (d := 84) (j := 3) rfl rfl (by omega) (by omega) ⟨by omega, by omega⟩ (fun h4183 Th4183 wh4183 => ?_)
                        have Fh4183 : cw_Fr cw_Ds cw_sh kk_X12_nextOrder.2.2.2.2.2.1 h h4183 := cw_Fr_tr Fh4182 (cw_Fr_wrr wh4183 (k := 145) (d := 84) rfl rfl (by decide +kernel))
                        have eh4183_o0 : ri_at h4183 145 0 = ri_at h4182 145 0 := ri_ne wh4183 (.inr (by decide))
                        have eh4183_o1 : ri_at h4183 145 1 = ri_at h4182 145 1 := ri_ne wh4183 (.inr (by decide))
                        have eh4183_o2 : ri_at h4183 145 2 = ri_at h4182 145 2 := ri_ne wh4183 (.inr (by decide))
                        have eh4183_o3 : ri_at h4183 145 3 = x4179.toInt := ri_self wh4183
                        refine ex_incA oq_X12_nextOrder_103 (v := x4173) (m := 1) gL4180_5 (by decide) (by omega) (fun L4185 x4184 hx4184 gL4185_5 kL4185 => ?_)
                        have gL4185_4 : cv_get L4185 4 = some (cv_i x4179) := kL4185 4 _ (by decide) (fun _ => rfl) gL4180_4
                        have gL4185_6 : cv_get L4185 6 = some (cv_i x4176) := kL4185 6 _ (by decide) (fun q => absurd q (by decide)) gL4180_6
                        have gL4185_3 : cv_get L4185 3 = some (cv_i x4162) := kL4185 3 _ (by decide) (fun q => absurd q (by decide)) gL4180_3
                        have gL4185_2 : cv_get L4185 2 = some (cv_i x4096) := kL4185 2 _ (by decide) (fun q => absurd q (by decide)) gL4180_2
                        have gL4185_0 : cv_get L4185 0 = some (cv_r 145) := kL4185 0 _ (by decide) (fun q => absurd q (by decide)) gL4180_0
                        have gL4185_1 : cv_get L4185 1 = some (cv_i n) := kL4185 1 _ (by decide) (fun q => absurd q (by decide)) gL4180_1
                        refine ex_incA oq_X12_nextOrder_106 (v := x4176) (m := (-1)) gL4185_6 (by decide) (by omega) (fun L4187 x4186 hx4186 gL4187_6 kL4187 => ?_)
                        have gL4187_5 : cv_get L4187 5 = some (cv_i x4184) := kL4187 5 _ (by decide) (fun _ => rfl) gL4185_5
                        have gL4187_4 : cv_get L4187 4 = some (cv_i x4179) := kL4187 4 _ (by decide) (fun q => absurd q (by decide)) gL4185_4
                        have gL4187_3 : cv_get L4187 3 = some (cv_i x4162) := kL4187 3 _ (by decide) (fun q => absurd q (by decide)) gL4185_3
                        have gL4187_2 : cv_get L4187 2 = some (cv_i x4096) := kL4187 2 _ (by decide) (fun q => absurd q (by decide)) gL4185_2
                        have gL4187_0 : cv_get L4187 0 = some (cv_r 145) := kL4187 0 _ (by decide) (fun q => absurd q (by decide)) gL4185_0
                        have gL4187_1 : cv_get L4187 1 = some (cv_i n) := kL4187 1 _ (by decide) (fun q => absurd q (by decide)) gL4185_1
                        refine ex_go oq_X12_nextOrder_109 (t := 76) rfl rfl ?_
                        refine ex_ilw oq_X12_nextOrder_76 gL4187_5 ?_
                        refine ex_ilw oq_X12_nextOrder_78 gL4187_6 ?_
                        refine ex_if oq_X12_nextOrder_80 (t := 112) rfl rfl (fun (c4188 : x4186.toInt ≤ x4184.toInt) => ?_) (fun (c4188 : ¬ (x4186.toInt ≤ x4184.toInt)) => ?_)
                        · refine ex_ic oq_X12_nextOrder_112 (m := 1) (by decide) (fun x4189 hx4189 => ?_)
                          refine ex_retb oq_X12_nextOrder_113 rfl (by omega) (by omega) (hQ x4189 h4183 Th4183 Fh4183 (by omega) (by omega) (fun _ => ⟨⟨?_, ?_⟩, ?_⟩))
                          · intro i hi hin
                            match i, hi, hin with
                            | 0, _, hin => omega
                            | 1, _, hin => omega
                            | 2, _, hin => omega
                            | 3, _, hin => omega
                          · intro i j hi hj hin hjn hij
                            match i, hi, hin, j, hj, hjn, hij with
                            | 0, _, hin, 0, _, hjn, hij => omega
                            | 0, _, hin, 1, _, hjn, hij => omega
                            | 0, _, hin, 2, _, hjn, hij => omega
                            | 0, _, hin, 3, _, hjn, hij => omega
                            | 1, _, hin, 0, _, hjn, hij => omega
                            | 1, _, hin, 1, _, hjn, hij => omega
                            | 1, _, hin, 2, _, hjn, hij => omega
                            | 1, _, hin, 3, _, hjn, hij => omega
                            | 2, _, hin, 0, _, hjn, hij => omega
                            | 2, _, hin, 1, _, hjn, hij => omega
                            | 2, _, hin, 2, _, hjn, hij => omega
                            | 2, _, hin, 3, _, hjn, hij => omega
                            | 3, _, hin, 0, _, hjn, hij => omega
                            | 3, _, hin, 1, _, hjn, hij => omega
                            | 3, _, hin, 2, _, hjn, hij => omega
                            | 3, _, hin, 3, _, hjn, hij => omega
                          · unfold od_r; omega
                        · exfalso; omega
                    · exfalso; omega
              · exfalso; omega
            · refine ex_incA oq_X12_nextOrder_19 (v := x4096) (m := (-1)) gL4097_2 (by decide) (by omega) (fun L4191 x4190 hx4190 gL4191_2 kL4191 => ?_)
              have gL4191_0 : cv_get L4191 0 = some (cv_r 145) := kL4191 0 _ (by decide) (fun q => absurd q (by decide)) gL4097_0
              have gL4191_1 : cv_get L4191 1 = some (cv_i n) := kL4191 1 _ (by decide) (fun _ => rfl) gL4097_1
              refine ex_go oq_X12_nextOrder_22 (t := 4) rfl rfl ?_
              refine ex_il oq_X12_nextOrder_4 gL4191_2 ?_
              refine ex_if0 oq_X12_nextOrder_5 (t := 25) rfl rfl (fun (c4192 : x4190.toInt < 0) => ?_) (fun (c4192 : ¬ (x4190.toInt < 0)) => ?_)
              · refine ex_il oq_X12_nextOrder_25 gL4191_2 ?_
                refine ex_if0 oq_X12_nextOrder_26 (t := 31) rfl rfl (fun (c4193 : 0 ≤ x4190.toInt) => ?_) (fun (c4193 : ¬ (0 ≤ x4190.toInt)) => ?_)
                · exfalso; omega
                · refine ex_ic oq_X12_nextOrder_29 (m := 0) (by decide) (fun x4194 hx4194 => ?_)
                  exact ex_retb oq_X12_nextOrder_30 rfl (by omega) (by omega) (hQ x4194 h hT Fh (by omega) (by omega) (fun q => absurd q (by omega)))
              · exfalso; omega
end SPI
