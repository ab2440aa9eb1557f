/-! ===== a gate's numbers: the reference ===== -/
def zni (j : Nat) : Nat := ([1, 2, 3, 4, 7, 8, 5, 6, 9, 10, 11] : List Nat).getD j 0
/-- the reference's row now -/
def zNV (h : cv_H) (γ : Nat → Int) : Prop := ∀ j, j < 11 → ri_at h 131 j = γ (zni j)
/-- what the reference holds of a gate -/
def zGT (h : cv_H) (gn : Nat) (T : Nat → Int) : Prop := ∀ j, j < 15 → ri_at h 119 (16 * gn + j) = T j
def gPt (T γ : Nat → Int) (k : Int) : Int := if k = 0 then gLean T (γ 1) else if k = 1 then γ 2 else gHook T (γ 3)
section GN
variable {G : Int} {X : cv_X} {Q : cv_O → Prop} {h : cv_H}
theorem rg_span (hT : cw_T G h) {g : Int32} {gn : Nat} (hg : g.toInt = gn) (hg4 : gn < 4) {T : Nat → Int} (gT : zGT h gn T) (rT : gTR T) (hQ : ∀ x : Int32, x.toInt = T 4 - T 3 → Q (some (cv_i x), h)) : cw_X X 203 Q 0 (cv_ent 0 [cv_r 111, cv_i g]) [] h := by
  obtain ⟨rT0, rT1, rT2, rT3, rT5, rT6, rT7, rT8, rT9, rT10, rT11, rT12, rT13, rT14⟩ := rT
  refine ex_al oq_X12_spanOf_0 rfl ?_
  refine ex_gf oq_X12_spanOf_1 hT (k := 111) (d := 12) rfl rfl (fr_gateHas hT) ?_
  refine ex_bi oq_X12_spanOf_4 (m := 16) (by decide) (fun x11 hx11 => ?_)
  refine ex_il oq_X12_spanOf_6 rfl ?_
  refine ex_mul oq_X12_spanOf_7 (m := 16 * g.toInt) (by rw [hx11]) (by omega) (fun x12 hx12 => ?_)
  refine ex_ic oq_X12_spanOf_8 (m := 4) (by decide) (fun x13 hx13 => ?_)
  refine ex_add oq_X12_spanOf_9 (by omega) (fun x14 hx14 => ?_)
  refine ex_iap oq_X12_spanOf_10 hT (k := 119) (d := 58) (j := 16 * gn + 4) rfl rfl (by omega) (by omega) (fun x15 hx15 => ?_)
  have hx15 := (hx15.symm.trans (gT 4 (by decide)) : x15.toInt = T 4)
  refine ex_al oq_X12_spanOf_11 rfl ?_
  refine ex_gf oq_X12_spanOf_12 hT (k := 111) (d := 12) rfl rfl (fr_gateHas hT) ?_
  refine ex_bi oq_X12_spanOf_15 (m := 16) (by decide) (fun x16 hx16 => ?_)
  refine ex_il oq_X12_spanOf_17 rfl ?_
  refine ex_mul oq_X12_spanOf_18 (m := 16 * g.toInt) (by rw [hx16]) (by omega) (fun x17 hx17 => ?_)
  refine ex_ic oq_X12_spanOf_19 (m := 3) (by decide) (fun x18 hx18 => ?_)
  refine ex_add oq_X12_spanOf_20 (by omega) (fun x19 hx19 => ?_)
  refine ex_iap oq_X12_spanOf_21 hT (k := 119) (d := 58) (j := 16 * gn + 3) rfl rfl (by omega) (by omega) (fun x20 hx20 => ?_)
  have hx20 := (hx20.symm.trans (gT 3 (by decide)) : x20.toInt = T 3)
  refine ex_sub oq_X12_spanOf_22 (by omega) (fun x21 hx21 => ?_)
  exact ex_reti oq_X12_spanOf_23 rfl (hQ x21 (by omega))
theorem oq_X12_pullOf_0 : cw_ho 204 0 (.aload_n 0) 1 0 0 0 := rfl
theorem oq_X12_pullOf_1 : cw_ho 204 1 (.getfield 36) 3 12 26 4 := rfl
theorem oq_X12_pullOf_4 : cw_ho 204 4 (.bipush 16) 2 0 0 0 := rfl
theorem oq_X12_pullOf_6 : cw_ho 204 6 (.iload_n 1) 1 0 0 0 := rfl
theorem oq_X12_pullOf_7 : cw_ho 204 7 (.imul) 1 0 0 0 := rfl
theorem oq_X12_pullOf_8 : cw_ho 204 8 (.iaload) 1 0 0 0 := rfl
theorem oq_X12_pullOf_9 : cw_ho 204 9 (.aload_n 0) 1 0 0 0 := rfl
theorem oq_X12_pullOf_10 : cw_ho 204 10 (.getfield 36) 3 12 26 4 := rfl
theorem oq_X12_pullOf_13 : cw_ho 204 13 (.bipush 16) 2 0 0 0 := rfl
theorem oq_X12_pullOf_15 : cw_ho 204 15 (.iload_n 1) 1 0 0 0 := rfl
theorem oq_X12_pullOf_16 : cw_ho 204 16 (.imul) 1 0 0 0 := rfl
theorem oq_X12_pullOf_17 : cw_ho 204 17 (.iconst 2) 1 0 0 0 := rfl
theorem oq_X12_pullOf_18 : cw_ho 204 18 (.iadd) 1 0 0 0 := rfl
theorem oq_X12_pullOf_19 : cw_ho 204 19 (.iaload) 1 0 0 0 := rfl
theorem oq_X12_pullOf_20 : cw_ho 204 20 (.iconst 2) 1 0 0 0 := rfl
theorem oq_X12_pullOf_21 : cw_ho 204 21 (.aload_n 0) 1 0 0 0 := rfl
theorem oq_X12_pullOf_22 : cw_ho 204 22 (.getfield 72) 3 12 45 4 := rfl
theorem oq_X12_pullOf_25 : cw_ho 204 25 (.bipush 8) 2 0 0 0 := rfl
theorem oq_X12_pullOf_27 : cw_ho 204 27 (.iaload) 1 0 0 0 := rfl
theorem oq_X12_pullOf_28 : cw_ho 204 28 (.imul) 1 0 0 0 := rfl
theorem oq_X12_pullOf_29 : cw_ho 204 29 (.iadd) 1 0 0 0 := rfl
theorem oq_X12_pullOf_30 : cw_ho 204 30 (.imul) 1 0 0 0 := rfl
theorem oq_X12_pullOf_31 : cw_ho 204 31 (.iconst 2) 1 0 0 0 := rfl
theorem oq_X12_pullOf_32 : cw_ho 204 32 (.aload_n 0) 1 0 0 0 := rfl
theorem oq_X12_pullOf_33 : cw_ho 204 33 (.iload_n 1) 1 0 0 0 := rfl
theorem oq_X12_pullOf_34 : cw_ho 204 34 (.invokevirtual 355) 3 203 1 12 := rfl
theorem oq_X12_pullOf_37 : cw_ho 204 37 (.imul) 1 0 0 0 := rfl
theorem oq_X12_pullOf_38 : cw_ho 204 38 (.idiv) 1 0 0 0 := rfl
theorem oq_X12_pullOf_39 : cw_ho 204 39 (.istore_n 2) 1 0 0 0 := rfl
theorem oq_X12_pullOf_40 : cw_ho 204 40 (.iload_n 2) 1 0 0 0 := rfl
theorem oq_X12_pullOf_41 : cw_ho 204 41 (.bipush 100) 2 0 0 0 := rfl
theorem oq_X12_pullOf_43 : cw_ho 204 43 (.aload_n 0) 1 0 0 0 := rfl
theorem oq_X12_pullOf_44 : cw_ho 204 44 (.getfield 72) 3 12 45 4 := rfl
theorem oq_X12_pullOf_47 : cw_ho 204 47 (.iconst 4) 1 0 0 0 := rfl
theorem oq_X12_pullOf_48 : cw_ho 204 48 (.iaload) 1 0 0 0 := rfl
theorem oq_X12_pullOf_49 : cw_ho 204 49 (.isub) 1 0 0 0 := rfl
theorem oq_X12_pullOf_50 : cw_ho 204 50 (.imul) 1 0 0 0 := rfl
theorem oq_X12_pullOf_51 : cw_ho 204 51 (.bipush 100) 2 0 0 0 := rfl
theorem oq_X12_pullOf_53 : cw_ho 204 53 (.idiv) 1 0 0 0 := rfl
theorem oq_X12_pullOf_54 : cw_ho 204 54 (.ireturn) 1 0 0 0 := rfl
theorem rg_pull (hT : cw_T G h) {g : Int32} {gn : Nat} (hg : g.toInt = gn) (hg4 : gn < 4) {T γ : Nat → Int} (gT : zGT h gn T) (nV : zNV h γ) (rT : gTR T) (rG : gGR γ) (hQ : ∀ x : Int32, x.toInt = gPull T (γ 9) (γ 7) → Q (some (cv_i x), h)) : cw_X X 204 Q 0 (cv_ent 0 [cv_r 111, cv_i g]) [] h := by
  unfold gPull at hQ
  have rT' := rT
  have rG' := rG
  obtain ⟨rT0, rT1, rT2, rT3, rT5, rT6, rT7, rT8, rT9, rT10, rT11, rT12, rT13, rT14⟩ := rT'
  obtain ⟨rG1, rG2, rG3, rG4, rG5, rG6, rG7, rG8, rG9, rG10, rG11, rG12, rG13, rG14, rG15, rG16⟩ := rG'
  refine ex_al oq_X12_pullOf_0 rfl ?_
  refine ex_gf oq_X12_pullOf_1 hT (k := 111) (d := 12) rfl rfl (fr_gateHas hT) ?_
  refine ex_bi oq_X12_pullOf_4 (m := 16) (by decide) (fun x11 hx11 => ?_)
  refine ex_il oq_X12_pullOf_6 rfl ?_
  refine ex_mul oq_X12_pullOf_7 (m := 16 * g.toInt) (by rw [hx11]) (by omega) (fun x12 hx12 => ?_)
  refine ex_iap oq_X12_pullOf_8 hT (k := 119) (d := 58) (j := 16 * gn + 0) rfl rfl (by omega) (by omega) (fun x13 hx13 => ?_)
  have hx13 := (hx13.symm.trans (gT 0 (by decide)) : x13.toInt = T 0)
  refine ex_al oq_X12_pullOf_9 rfl ?_
  refine ex_gf oq_X12_pullOf_10 hT (k := 111) (d := 12) rfl rfl (fr_gateHas hT) ?_
  refine ex_bi oq_X12_pullOf_13 (m := 16) (by decide) (fun x14 hx14 => ?_)
  refine ex_il oq_X12_pullOf_15 rfl ?_
  refine ex_mul oq_X12_pullOf_16 (m := 16 * g.toInt) (by rw [hx14]) (by omega) (fun x15 hx15 => ?_)
  refine ex_ic oq_X12_pullOf_17 (m := 2) (by decide) (fun x16 hx16 => ?_)
  refine ex_add oq_X12_pullOf_18 (by omega) (fun x17 hx17 => ?_)
  refine ex_iap oq_X12_pullOf_19 hT (k := 119) (d := 58) (j := 16 * gn + 2) rfl rfl (by omega) (by omega) (fun x18 hx18 => ?_)
  have hx18 := (hx18.symm.trans (gT 2 (by decide)) : x18.toInt = T 2)
  refine ex_ic oq_X12_pullOf_20 (m := 2) (by decide) (fun x19 hx19 => ?_)
  refine ex_al oq_X12_pullOf_21 rfl ?_
  refine ex_gf oq_X12_pullOf_22 hT (k := 111) (d := 12) rfl rfl (fr_now hT) ?_
  refine ex_bi oq_X12_pullOf_25 (m := 8) (by decide) (fun x20 hx20 => ?_)
  refine ex_ia1 oq_X12_pullOf_27 hT (k := 131) (d := 70) (j := 8) rfl rfl (by omega) (by omega) (fun x21 hx21 lx21 ux21 => ?_)
  have hx21 := (hx21.symm.trans (nV 8 (by decide)) : x21.toInt = γ 9)
  refine ex_mul oq_X12_pullOf_28 (m := 2 * x21.toInt) (by rw [hx19]) (by omega) (fun x22 hx22 => ?_)
  refine ex_add oq_X12_pullOf_29 (by omega) (fun x23 hx23 => ?_)
  have pb := gPull_b rT rG.2.2.2.2.2.2.2.2.1 rG.2.2.2.2.2.2.1
  refine ex_mul oq_X12_pullOf_30 (m := (T 0) * (T 2 + 2 * γ 9)) (by rw [show x13.toInt = T 0 from by omega, show x23.toInt = T 2 + 2 * γ 9 from by omega]) (by omega) (fun x24 hx24 => ?_)
  refine ex_ic oq_X12_pullOf_31 (m := 2) (by decide) (fun x25 hx25 => ?_)
  refine ex_al oq_X12_pullOf_32 rfl ?_
  refine ex_il oq_X12_pullOf_33 rfl ?_
  refine ex_cv oq_X12_pullOf_34 (by decide) hT (k := 111) (d := 12) (as := [cv_i g]) (stk := [cv_i x25, cv_i x24]) rfl rfl rfl rfl rfl rfl ⟨rfl, rfl⟩ (R := fun o => ∃ x : Int32, o = (some (cv_i x), h) ∧ x.toInt = T 4 - T 3) (rg_span hT hg hg4 gT rT (fun x q => ⟨x, rfl, q⟩)) (fun o ho => ?_)
  obtain ⟨x26, rfl, hx26⟩ := ho
  show cw_X _ _ _ _ _ [cv_i x26, cv_i x25, cv_i x24] h
  refine ex_mul oq_X12_pullOf_37 (m := 2 * x26.toInt) (by rw [hx25]) (by omega) (fun x27 hx27 => ?_)
  refine ex_div oq_X12_pullOf_38 (by omega) (by omega) (fun x28 hx28 => ?_)
  replace hx28 : x28.toInt = (T 0 * (T 2 + 2 * γ 9)) / (2 * (T 4 - T 3)) := by rw [hx28, show x24.toInt = T 0 * (T 2 + 2 * γ 9) from by omega, show x27.toInt = 2 * (T 4 - T 3) from by omega]
  refine ex_isA oq_X12_pullOf_39 (fun L29 gL29_2 kL29 => ?_)
  have gL29_0 : cv_get L29 0 = some (cv_r 111) := kL29 0 _ (by decide) (fun q => absurd q (by decide)) rfl
  have gL29_1 : cv_get L29 1 = some (cv_i g) := kL29 1 _ (by decide) (fun _ => rfl) rfl
  refine ex_il oq_X12_pullOf_40 gL29_2 ?_
  refine ex_bi oq_X12_pullOf_41 (m := 100) (by decide) (fun x30 hx30 => ?_)
  refine ex_al oq_X12_pullOf_43 gL29_0 ?_
  refine ex_gf oq_X12_pullOf_44 hT (k := 111) (d := 12) rfl rfl (fr_now hT) ?_
  refine ex_ic oq_X12_pullOf_47 (m := 4) (by decide) (fun x31 hx31 => ?_)
  refine ex_ia1 oq_X12_pullOf_48 hT (k := 131) (d := 70) (j := 4) rfl rfl (by omega) (by omega) (fun x32 hx32 lx32 ux32 => ?_)
  have hx32 := (hx32.symm.trans (nV 4 (by decide)) : x32.toInt = γ 7)
  refine ex_sub oq_X12_pullOf_49 (by omega) (fun x33 hx33 => ?_)
  refine ex_mul oq_X12_pullOf_50 (m := (T 0 * (T 2 + 2 * γ 9) / (2 * (T 4 - T 3))) * (100 - γ 7)) (by rw [show x28.toInt = T 0 * (T 2 + 2 * γ 9) / (2 * (T 4 - T 3)) from by omega, show x33.toInt = 100 - γ 7 from by omega]) (by omega) (fun x34 hx34 => ?_)
  refine ex_bi oq_X12_pullOf_51 (m := 100) (by decide) (fun x35 hx35 => ?_)
  refine ex_div oq_X12_pullOf_53 (by omega) (by omega) (fun x36 hx36 => ?_)
  replace hx36 : x36.toInt = ((T 0 * (T 2 + 2 * γ 9) / (2 * (T 4 - T 3))) * (100 - γ 7)) / (100) := by rw [hx36, show x34.toInt = (T 0 * (T 2 + 2 * γ 9) / (2 * (T 4 - T 3))) * (100 - γ 7) from by omega, show x35.toInt = 100 from by omega]
  exact ex_reti oq_X12_pullOf_54 rfl (hQ x36 (by omega))
theorem rg_part (hT : cw_T G h) {g : Int32} {gn : Nat} (hg : g.toInt = gn) (hg4 : gn < 4) {T γ : Nat → Int} (gT : zGT h gn T) (nV : zNV h γ) (rT : gTR T) (rG : gGR γ) {k : Int32} (hk : 0 ≤ k.toInt ∧ k.toInt ≤ 2) (hQ : ∀ x : Int32, x.toInt = gPt T γ k.toInt → Q (some (cv_i x), h)) : cw_X X 205 Q 0 (cv_ent 0 [cv_r 111, cv_i g, cv_i k]) [] h := by
  have rT' := rT
  have rG' := rG
  obtain ⟨rT0, rT1, rT2, rT3, rT5, rT6, rT7, rT8, rT9, rT10, rT11, rT12, rT13, rT14⟩ := rT'
  obtain ⟨rG1, rG2, rG3, rG4, rG5, rG6, rG7, rG8, rG9, rG10, rG11, rG12, rG13, rG14, rG15, rG16⟩ := rG'
  refine ex_al oq_X12_partOf_0 rfl ?_
  refine ex_gf oq_X12_partOf_1 hT (k := 111) (d := 12) rfl rfl (fr_gateHas hT) ?_
  refine ex_bi oq_X12_partOf_4 (m := 16) (by decide) (fun x11 hx11 => ?_)
  refine ex_il oq_X12_partOf_6 rfl ?_
  refine ex_mul oq_X12_partOf_7 (m := 16 * g.toInt) (by rw [hx11]) (by omega) (fun x12 hx12 => ?_)
  refine ex_iap oq_X12_partOf_8 hT (k := 119) (d := 58) (j := 16 * gn + 0) rfl rfl (by omega) (by omega) (fun x13 hx13 => ?_)
  have hx13 := (hx13.symm.trans (gT 0 (by decide)) : x13.toInt = T 0)
  refine ex_i2l oq_X12_partOf_9 (fun x14 hx14 => ?_)
  refine ex_lsA oq_X12_partOf_10 (fun L15 gL15_3 kL15 => ?_)
  have gL15_0 : cv_get L15 0 = some (cv_r 111) := kL15 0 _ (by decide) (by decide) (fun q => absurd q (by decide)) rfl
  have gL15_1 : cv_get L15 1 = some (cv_i g) := kL15 1 _ (by decide) (by decide) (fun q => absurd q (by decide)) rfl
  have gL15_2 : cv_get L15 2 = some (cv_i k) := kL15 2 _ (by decide) (by decide) (fun _ => rfl) rfl
  refine ex_il oq_X12_partOf_11 gL15_2 ?_
  refine ex_if0 oq_X12_partOf_12 (t := 40) rfl rfl (fun (c16 : ¬ k.toInt = 0) => ?_) (fun (c16 : ¬ (¬ k.toInt = 0)) => ?_)
  · refine ex_il oq_X12_partOf_40 gL15_2 ?_
    refine ex_ic oq_X12_partOf_41 (m := 1) (by decide) (fun x17 hx17 => ?_)
    refine ex_if oq_X12_partOf_42 (t := 55) rfl rfl (fun (c18 : ¬ k.toInt = x17.toInt) => ?_) (fun (c18 : ¬ (¬ k.toInt = x17.toInt)) => ?_)
    · refine ex_al oq_X12_partOf_55 gL15_0 ?_
      refine ex_gf oq_X12_partOf_56 hT (k := 111) (d := 12) rfl rfl (fr_now hT) ?_
      refine ex_ic oq_X12_partOf_59 (m := 2) (by decide) (fun x19 hx19 => ?_)
      refine ex_ia1 oq_X12_partOf_60 hT (k := 131) (d := 70) (j := 2) rfl rfl (by omega) (by omega) (fun x20 hx20 lx20 ux20 => ?_)
      have hx20 := (hx20.symm.trans (nV 2 (by decide)) : x20.toInt = γ 3)
      refine ex_i2l oq_X12_partOf_61 (fun x21 hx21 => ?_)
      refine ex_ll oq_X12_partOf_62 gL15_3 ?_
      have mb := zmb rG3 (show 0 ≤ T 0 ∧ T 0 ≤ 144 from ⟨by omega, by omega⟩)
      refine ex_lmulV oq_X12_partOf_63 (m := (γ 3) * (T 0)) (by rw [show x21.toInt = γ 3 from by omega, show x14.toInt = T 0 from by omega]) (by omega) (fun x22 hx22 => ?_)
      refine ex_al oq_X12_partOf_64 gL15_0 ?_
      refine ex_il oq_X12_partOf_65 gL15_1 ?_
      refine ex_cv oq_X12_partOf_66 (by decide) hT (k := 111) (d := 12) (as := [cv_i g]) (stk := [cv_l x22]) rfl rfl rfl rfl rfl rfl ⟨rfl, rfl⟩ (R := fun o => ∃ x : Int32, o = (some (cv_i x), h) ∧ x.toInt = T 4 - T 3) (rg_span hT hg hg4 gT rT (fun x q => ⟨x, rfl, q⟩)) (fun o ho => ?_)
      obtain ⟨x23, rfl, hx23⟩ := ho
      show cw_X _ _ _ _ _ [cv_i x23, cv_l x22] h
      refine ex_i2l oq_X12_partOf_69 (fun x24 hx24 => ?_)
      refine ex_ldivV oq_X12_partOf_70 (by omega) (by omega) (fun x25 hx25 => ?_)
      replace hx25 : x25.toInt = (γ 3 * T 0) / (T 4 - T 3) := by rw [hx25, show x22.toInt = γ 3 * T 0 from by omega, show x24.toInt = T 4 - T 3 from by omega]; exact Int.tdiv_eq_ediv_of_nonneg (by omega)
      have db := zdb (a := γ 3 * T 0) (d := T 4 - T 3) (A := 144000000) ⟨by omega, by omega⟩ (by omega)
      refine ex_l2iV oq_X12_partOf_71 (by omega) (fun x26 hx26 => ?_)
      exact ex_reti oq_X12_partOf_72 rfl (hQ x26 (by unfold gPt; rw [if_neg (by omega), if_neg (by omega)]; unfold gHook; omega))
    · refine ex_al oq_X12_partOf_45 gL15_0 ?_
      refine ex_gf oq_X12_partOf_46 hT (k := 111) (d := 12) rfl rfl (fr_now hT) ?_
      refine ex_ic oq_X12_partOf_49 (m := 1) (by decide) (fun x27 hx27 => ?_)
      refine ex_ia1 oq_X12_partOf_50 hT (k := 131) (d := 70) (j := 1) rfl rfl (by omega) (by omega) (fun x28 hx28 lx28 ux28 => ?_)
      have hx28 := (hx28.symm.trans (nV 1 (by decide)) : x28.toInt = γ 2)
      refine ex_i2l oq_X12_partOf_51 (fun x29 hx29 => ?_)
      refine ex_go oq_X12_partOf_52 (t := 71) rfl rfl ?_
      refine ex_l2iV oq_X12_partOf_71 (by omega) (fun x30 hx30 => ?_)
      exact ex_reti oq_X12_partOf_72 rfl (hQ x30 (by unfold gPt; rw [if_neg (by omega), if_pos (by omega)]; omega))
  · refine ex_al oq_X12_partOf_15 gL15_0 ?_
    refine ex_gf oq_X12_partOf_16 hT (k := 111) (d := 12) rfl rfl (fr_now hT) ?_
    refine ex_ic oq_X12_partOf_19 (m := 0) (by decide) (fun x31 hx31 => ?_)
    refine ex_ia1 oq_X12_partOf_20 hT (k := 131) (d := 70) (j := 0) rfl rfl (by omega) (by omega) (fun x32 hx32 lx32 ux32 => ?_)
    have hx32 := (hx32.symm.trans (nV 0 (by decide)) : x32.toInt = γ 1)
    refine ex_i2l oq_X12_partOf_21 (fun x33 hx33 => ?_)
    refine ex_ll oq_X12_partOf_22 gL15_3 ?_
    have mb := zmb rG1 (show 0 ≤ T 0 ∧ T 0 ≤ 144 from ⟨by omega, by omega⟩)
    refine ex_lmulV oq_X12_partOf_23 (m := (γ 1) * (T 0)) (by rw [show x33.toInt = γ 1 from by omega, show x14.toInt = T 0 from by omega]) (by omega) (fun x34 hx34 => ?_)
    refine ex_al oq_X12_partOf_24 gL15_0 ?_
    refine ex_gf oq_X12_partOf_25 hT (k := 111) (d := 12) rfl rfl (fr_gateHas hT) ?_
    refine ex_bi oq_X12_partOf_28 (m := 16) (by decide) (fun x35 hx35 => ?_)
    refine ex_il oq_X12_partOf_30 gL15_1 ?_
    refine ex_mul oq_X12_partOf_31 (m := 16 * g.toInt) (by rw [hx35]) (by omega) (fun x36 hx36 => ?_)
    refine ex_ic oq_X12_partOf_32 (m := 1) (by decide) (fun x37 hx37 => ?_)
    refine ex_add oq_X12_partOf_33 (by omega) (fun x38 hx38 => ?_)
    refine ex_iap oq_X12_partOf_34 hT (k := 119) (d := 58) (j := 16 * gn + 1) rfl rfl (by omega) (by omega) (fun x39 hx39 => ?_)
    have hx39 := (hx39.symm.trans (gT 1 (by decide)) : x39.toInt = T 1)
    refine ex_i2l oq_X12_partOf_35 (fun x40 hx40 => ?_)
    refine ex_ldivV oq_X12_partOf_36 (by omega) (by omega) (fun x41 hx41 => ?_)
    replace hx41 : x41.toInt = (γ 1 * T 0) / (T 1) := by rw [hx41, show x34.toInt = γ 1 * T 0 from by omega, show x40.toInt = T 1 from by omega]; exact Int.tdiv_eq_ediv_of_nonneg (by omega)
    have db := zdb (a := γ 1 * T 0) (d := T 1) (A := 144000000) ⟨by omega, by omega⟩ (by omega)
    refine ex_go oq_X12_partOf_37 (t := 71) rfl rfl ?_
    refine ex_l2iV oq_X12_partOf_71 (by omega) (fun x42 hx42 => ?_)
    exact ex_reti oq_X12_partOf_72 rfl (hQ x42 (by unfold gPt; rw [if_pos (by omega)]; unfold gLean; omega))
theorem oq_X12_dropOf_0 : cw_ho 206 0 (.aload_n 0) 1 0 0 0 := rfl
theorem oq_X12_dropOf_1 : cw_ho 206 1 (.iload_n 1) 1 0 0 0 := rfl
theorem oq_X12_dropOf_2 : cw_ho 206 2 (.iconst 0) 1 0 0 0 := rfl
theorem oq_X12_dropOf_3 : cw_ho 206 3 (.invokevirtual 358) 3 205 2 12 := rfl
theorem oq_X12_dropOf_6 : cw_ho 206 6 (.aload_n 0) 1 0 0 0 := rfl
theorem oq_X12_dropOf_7 : cw_ho 206 7 (.iload_n 1) 1 0 0 0 := rfl
theorem oq_X12_dropOf_8 : cw_ho 206 8 (.iconst 1) 1 0 0 0 := rfl
theorem oq_X12_dropOf_9 : cw_ho 206 9 (.invokevirtual 358) 3 205 2 12 := rfl
theorem oq_X12_dropOf_12 : cw_ho 206 12 (.iadd) 1 0 0 0 := rfl
theorem oq_X12_dropOf_13 : cw_ho 206 13 (.aload_n 0) 1 0 0 0 := rfl
theorem oq_X12_dropOf_14 : cw_ho 206 14 (.iload_n 1) 1 0 0 0 := rfl
theorem oq_X12_dropOf_15 : cw_ho 206 15 (.iconst 2) 1 0 0 0 := rfl
theorem oq_X12_dropOf_16 : cw_ho 206 16 (.invokevirtual 358) 3 205 2 12 := rfl
theorem oq_X12_dropOf_19 : cw_ho 206 19 (.iadd) 1 0 0 0 := rfl
theorem oq_X12_dropOf_20 : cw_ho 206 20 (.aload_n 0) 1 0 0 0 := rfl
theorem oq_X12_dropOf_21 : cw_ho 206 21 (.getfield 72) 3 12 45 4 := rfl
theorem oq_X12_dropOf_24 : cw_ho 206 24 (.iconst 3) 1 0 0 0 := rfl
theorem oq_X12_dropOf_25 : cw_ho 206 25 (.iaload) 1 0 0 0 := rfl
theorem oq_X12_dropOf_26 : cw_ho 206 26 (.isub) 1 0 0 0 := rfl
theorem oq_X12_dropOf_27 : cw_ho 206 27 (.ireturn) 1 0 0 0 := rfl
theorem gPt_0 {T γ : Nat → Int} {k : Int} (h : k = 0) : gPt T γ k = gLean T (γ 1) := by unfold gPt; rw [if_pos h]
theorem gPt_1 {T γ : Nat → Int} {k : Int} (h : k = 1) : gPt T γ k = γ 2 := by unfold gPt; rw [if_neg (by omega), if_pos h]
theorem gPt_2 {T γ : Nat → Int} {k : Int} (h : k = 2) : gPt T γ k = gHook T (γ 3) := by unfold gPt; rw [if_neg (by omega), if_neg (by omega)]
theorem rg_drop (hT : cw_T G h) {g : Int32} {gn : Nat} (hg : g.toInt = gn) (hg4 : gn < 4) {T γ : Nat → Int} (gT : zGT h gn T) (nV : zNV h γ) (rT : gTR T) (rG : gGR γ) (hQ : ∀ x : Int32, x.toInt = gDrop T (γ 1) (γ 2) (γ 3) (γ 4) → Q (some (cv_i x), h)) : cw_X X 206 Q 0 (cv_ent 0 [cv_r 111, cv_i g]) [] h := by
  have b1 := gLean_b rT rG.1
  have b2 := gHook_b rT rG.2.2.1
  unfold gDrop at hQ
  have rT' := rT
  have rG' := rG
  obtain ⟨rT0, rT1, rT2, rT3, rT5, rT6, rT7, rT8, rT9, rT10, rT11, rT12, rT13, rT14⟩ := rT'
  obtain ⟨rG1, rG2, rG3, rG4, rG5, rG6, rG7, rG8, rG9, rG10, rG11, rG12, rG13, rG14, rG15, rG16⟩ := rG'
  refine ex_al oq_X12_dropOf_0 rfl ?_
  refine ex_il oq_X12_dropOf_1 rfl ?_
  refine ex_ic oq_X12_dropOf_2 (m := 0) (by decide) (fun x11 hx11 => ?_)
  refine ex_cv oq_X12_dropOf_3 (by decide) hT (k := 111) (d := 12) (as := [cv_i g, cv_i x11]) (stk := []) rfl rfl rfl rfl rfl rfl ⟨rfl, rfl⟩ (R := fun o => ∃ x : Int32, o = (some (cv_i x), h) ∧ x.toInt = gPt T γ x11.toInt) (rg_part hT hg hg4 gT nV rT rG (k := x11) (by omega) (fun x q => ⟨x, rfl, q⟩)) (fun o ho => ?_)
  obtain ⟨x12, rfl, hx12⟩ := ho
  replace hx12 : x12.toInt = gLean T (γ 1) := by rw [hx12]; exact gPt_0 (by omega)
  show cw_X _ _ _ _ _ [cv_i x12] h
  refine ex_al oq_X12_dropOf_6 rfl ?_
  refine ex_il oq_X12_dropOf_7 rfl ?_
  refine ex_ic oq_X12_dropOf_8 (m := 1) (by decide) (fun x13 hx13 => ?_)
  refine ex_cv oq_X12_dropOf_9 (by decide) hT (k := 111) (d := 12) (as := [cv_i g, cv_i x13]) (stk := [cv_i x12]) rfl rfl rfl rfl rfl rfl ⟨rfl, rfl⟩ (R := fun o => ∃ x : Int32, o = (some (cv_i x), h) ∧ x.toInt = gPt T γ x13.toInt) (rg_part hT hg hg4 gT nV rT rG (k := x13) (by omega) (fun x q => ⟨x, rfl, q⟩)) (fun o ho => ?_)
  obtain ⟨x14, rfl, hx14⟩ := ho
  replace hx14 : x14.toInt = γ 2 := by rw [hx14]; exact gPt_1 (by omega)
  show cw_X _ _ _ _ _ [cv_i x14, cv_i x12] h
  refine ex_add oq_X12_dropOf_12 (by omega) (fun x15 hx15 => ?_)
  refine ex_al oq_X12_dropOf_13 rfl ?_
  refine ex_il oq_X12_dropOf_14 rfl ?_
  refine ex_ic oq_X12_dropOf_15 (m := 2) (by decide) (fun x16 hx16 => ?_)
  refine ex_cv oq_X12_dropOf_16 (by decide) hT (k := 111) (d := 12) (as := [cv_i g, cv_i x16]) (stk := [cv_i x15]) rfl rfl rfl rfl rfl rfl ⟨rfl, rfl⟩ (R := fun o => ∃ x : Int32, o = (some (cv_i x), h) ∧ x.toInt = gPt T γ x16.toInt) (rg_part hT hg hg4 gT nV rT rG (k := x16) (by omega) (fun x q => ⟨x, rfl, q⟩)) (fun o ho => ?_)
  obtain ⟨x17, rfl, hx17⟩ := ho
  replace hx17 : x17.toInt = gHook T (γ 3) := by rw [hx17]; exact gPt_2 (by omega)
  show cw_X _ _ _ _ _ [cv_i x17, cv_i x15] h
  refine ex_add oq_X12_dropOf_19 (by omega) (fun x18 hx18 => ?_)
  refine ex_al oq_X12_dropOf_20 rfl ?_
  refine ex_gf oq_X12_dropOf_21 hT (k := 111) (d := 12) rfl rfl (fr_now hT) ?_
  refine ex_ic oq_X12_dropOf_24 (m := 3) (by decide) (fun x19 hx19 => ?_)
  refine ex_ia1 oq_X12_dropOf_25 hT (k := 131) (d := 70) (j := 3) rfl rfl (by omega) (by omega) (fun x20 hx20 lx20 ux20 => ?_)
  have hx20 := (hx20.symm.trans (nV 3 (by decide)) : x20.toInt = γ 4)
  refine ex_sub oq_X12_dropOf_26 (by omega) (fun x21 hx21 => ?_)
  exact ex_reti oq_X12_dropOf_27 rfl (hQ x21 (by omega))
theorem oq_X12_firmOf_0 : cw_ho 207 0 (.aload_n 0) 1 0 0 0 := rfl
theorem oq_X12_firmOf_1 : cw_ho 207 1 (.getfield 20) 3 12 21 4 := rfl
theorem oq_X12_firmOf_4 : cw_ho 207 4 (.iload_n 1) 1 0 0 0 := rfl
theorem oq_X12_firmOf_5 : cw_ho 207 5 (.bipush 12) 2 0 0 0 := rfl
theorem oq_X12_firmOf_7 : cw_ho 207 7 (.imul) 1 0 0 0 := rfl
theorem oq_X12_firmOf_8 : cw_ho 207 8 (.bipush 52) 2 0 0 0 := rfl
theorem oq_X12_firmOf_10 : cw_ho 207 10 (.idiv) 1 0 0 0 := rfl
theorem oq_X12_firmOf_11 : cw_ho 207 11 (.bipush 12) 2 0 0 0 := rfl
theorem oq_X12_firmOf_13 : cw_ho 207 13 (.irem) 1 0 0 0 := rfl
theorem oq_X12_firmOf_14 : cw_ho 207 14 (.iaload) 1 0 0 0 := rfl
theorem oq_X12_firmOf_15 : cw_ho 207 15 (.ireturn) 1 0 0 0 := rfl
theorem rg_firm (hT : cw_T G h) {g : Nat → Int} (hG : ∀ j, j < 12 → ri_at h 114 j = g j) {w : Int32} (hw : 0 ≤ w.toInt ∧ w.toInt ≤ 10000000) (hQ : ∀ x : Int32, x.toInt = gFirm g w.toInt → Q (some (cv_i x), h)) : cw_X X 207 Q 0 (cv_ent 0 [cv_r 111, cv_i w]) [] h := by
  refine ex_al oq_X12_firmOf_0 rfl ?_
  refine ex_gf oq_X12_firmOf_1 hT (k := 111) (d := 12) rfl rfl (fr_ground hT) ?_
  refine ex_il oq_X12_firmOf_4 rfl ?_
  refine ex_bi oq_X12_firmOf_5 (m := 12) (by decide) (fun x11 hx11 => ?_)
  refine ex_mul oq_X12_firmOf_7 (m := w.toInt * 12) (by rw [show x11.toInt = 12 from by omega]) (by omega) (fun x12 hx12 => ?_)
  refine ex_bi oq_X12_firmOf_8 (m := 52) (by decide) (fun x13 hx13 => ?_)
  refine ex_div oq_X12_firmOf_10 (by omega) (by omega) (fun x14 hx14 => ?_)
  replace hx14 : x14.toInt = (w.toInt * 12) / (52) := by rw [hx14, show x12.toInt = w.toInt * 12 from by omega, show x13.toInt = 52 from by omega]
  refine ex_bi oq_X12_firmOf_11 (m := 12) (by decide) (fun x15 hx15 => ?_)
  refine ex_rem oq_X12_firmOf_13 (by omega) (fun x16 hx16 => ?_)
  replace hx16 : x16.toInt = x14.toInt % 12 := by rw [hx16]; exact zrem12 (by omega) (by omega)
  refine ex_ia1 oq_X12_firmOf_14 hT (k := 114) (d := 53) (j := (w.toInt * 12 / 52 % 12).toNat) rfl rfl (by omega) (by omega) (fun x17 hx17 lx17 ux17 => ?_)
  exact ex_reti oq_X12_firmOf_15 rfl (hQ x17 (hx17.symm.trans (hG _ (by omega))))
theorem oq_X12_layNames_0 : cw_ho 212 0 (.aload_n 0) 1 0 0 0 := rfl
theorem oq_X12_layNames_1 : cw_ho 212 1 (.getfield 75) 3 12 46 4 := rfl
theorem oq_X12_layNames_4 : cw_ho 212 4 (.iconst 0) 1 0 0 0 := rfl
theorem oq_X12_layNames_5 : cw_ho 212 5 (.aload_n 0) 1 0 0 0 := rfl
theorem oq_X12_layNames_6 : cw_ho 212 6 (.iload_n 1) 1 0 0 0 := rfl
theorem oq_X12_layNames_7 : cw_ho 212 7 (.invokevirtual 380) 3 204 1 12 := rfl
theorem oq_X12_layNames_10 : cw_ho 212 10 (.i2l) 1 0 0 0 := rfl
theorem oq_X12_layNames_11 : cw_ho 212 11 (.lastore) 1 0 0 0 := rfl
theorem oq_X12_layNames_12 : cw_ho 212 12 (.aload_n 0) 1 0 0 0 := rfl
theorem oq_X12_layNames_13 : cw_ho 212 13 (.getfield 75) 3 12 46 4 := rfl
theorem oq_X12_layNames_16 : cw_ho 212 16 (.iconst 1) 1 0 0 0 := rfl
theorem oq_X12_layNames_17 : cw_ho 212 17 (.aload_n 0) 1 0 0 0 := rfl
theorem oq_X12_layNames_18 : cw_ho 212 18 (.iload_n 2) 1 0 0 0 := rfl
theorem oq_X12_layNames_19 : cw_ho 212 19 (.invokevirtual 383) 3 207 1 12 := rfl
theorem oq_X12_layNames_22 : cw_ho 212 22 (.aload_n 0) 1 0 0 0 := rfl
theorem oq_X12_layNames_23 : cw_ho 212 23 (.getfield 72) 3 12 45 4 := rfl
theorem oq_X12_layNames_26 : cw_ho 212 26 (.iconst 5) 1 0 0 0 := rfl
theorem oq_X12_layNames_27 : cw_ho 212 27 (.iaload) 1 0 0 0 := rfl
theorem oq_X12_layNames_28 : cw_ho 212 28 (.iadd) 1 0 0 0 := rfl
theorem oq_X12_layNames_29 : cw_ho 212 29 (.i2l) 1 0 0 0 := rfl
theorem oq_X12_layNames_30 : cw_ho 212 30 (.lastore) 1 0 0 0 := rfl
theorem oq_X12_layNames_31 : cw_ho 212 31 (.aload_n 0) 1 0 0 0 := rfl
theorem oq_X12_layNames_32 : cw_ho 212 32 (.getfield 75) 3 12 46 4 := rfl
theorem oq_X12_layNames_35 : cw_ho 212 35 (.iconst 2) 1 0 0 0 := rfl
theorem oq_X12_layNames_36 : cw_ho 212 36 (.aload_n 0) 1 0 0 0 := rfl
theorem oq_X12_layNames_37 : cw_ho 212 37 (.getfield 72) 3 12 45 4 := rfl
theorem oq_X12_layNames_40 : cw_ho 212 40 (.bipush 6) 2 0 0 0 := rfl
theorem oq_X12_layNames_42 : cw_ho 212 42 (.iaload) 1 0 0 0 := rfl
theorem oq_X12_layNames_43 : cw_ho 212 43 (.i2l) 1 0 0 0 := rfl
theorem oq_X12_layNames_44 : cw_ho 212 44 (.lastore) 1 0 0 0 := rfl
theorem oq_X12_layNames_45 : cw_ho 212 45 (.aload_n 0) 1 0 0 0 := rfl
theorem oq_X12_layNames_46 : cw_ho 212 46 (.getfield 75) 3 12 46 4 := rfl
theorem oq_X12_layNames_49 : cw_ho 212 49 (.iconst 3) 1 0 0 0 := rfl
theorem oq_X12_layNames_50 : cw_ho 212 50 (.aload_n 0) 1 0 0 0 := rfl
theorem oq_X12_layNames_51 : cw_ho 212 51 (.getfield 36) 3 12 26 4 := rfl
theorem oq_X12_layNames_54 : cw_ho 212 54 (.bipush 16) 2 0 0 0 := rfl
theorem oq_X12_layNames_56 : cw_ho 212 56 (.iload_n 1) 1 0 0 0 := rfl
theorem oq_X12_layNames_57 : cw_ho 212 57 (.imul) 1 0 0 0 := rfl
theorem oq_X12_layNames_58 : cw_ho 212 58 (.bipush 8) 2 0 0 0 := rfl
theorem oq_X12_layNames_60 : cw_ho 212 60 (.iadd) 1 0 0 0 := rfl
theorem oq_X12_layNames_61 : cw_ho 212 61 (.iaload) 1 0 0 0 := rfl
theorem oq_X12_layNames_62 : cw_ho 212 62 (.i2l) 1 0 0 0 := rfl
theorem oq_X12_layNames_63 : cw_ho 212 63 (.lastore) 1 0 0 0 := rfl
theorem oq_X12_layNames_64 : cw_ho 212 64 (.aload_n 0) 1 0 0 0 := rfl
theorem oq_X12_layNames_65 : cw_ho 212 65 (.getfield 75) 3 12 46 4 := rfl
theorem oq_X12_layNames_68 : cw_ho 212 68 (.iconst 4) 1 0 0 0 := rfl
theorem oq_X12_layNames_69 : cw_ho 212 69 (.aload_n 0) 1 0 0 0 := rfl
theorem oq_X12_layNames_70 : cw_ho 212 70 (.getfield 72) 3 12 45 4 := rfl
theorem oq_X12_layNames_73 : cw_ho 212 73 (.bipush 7) 2 0 0 0 := rfl
theorem oq_X12_layNames_75 : cw_ho 212 75 (.iaload) 1 0 0 0 := rfl
theorem oq_X12_layNames_76 : cw_ho 212 76 (.iconst 1) 1 0 0 0 := rfl
theorem oq_X12_layNames_77 : cw_ho 212 77 (.if_icmp .ne 7) 3 0 0 0 := rfl
theorem oq_X12_layNames_80 : cw_ho 212 80 (.lconst 1) 1 0 0 0 := rfl
theorem oq_X12_layNames_81 : cw_ho 212 81 (.goto 4) 3 0 0 0 := rfl
theorem oq_X12_layNames_84 : cw_ho 212 84 (.lconst 0) 1 0 0 0 := rfl
theorem oq_X12_layNames_85 : cw_ho 212 85 (.lastore) 1 0 0 0 := rfl
theorem oq_X12_layNames_86 : cw_ho 212 86 (.aload_n 0) 1 0 0 0 := rfl
theorem oq_X12_layNames_87 : cw_ho 212 87 (.getfield 75) 3 12 46 4 := rfl
theorem oq_X12_layNames_90 : cw_ho 212 90 (.iconst 5) 1 0 0 0 := rfl
theorem oq_X12_layNames_91 : cw_ho 212 91 (.aload_n 0) 1 0 0 0 := rfl
theorem oq_X12_layNames_92 : cw_ho 212 92 (.getfield 72) 3 12 45 4 := rfl
theorem oq_X12_layNames_95 : cw_ho 212 95 (.bipush 7) 2 0 0 0 := rfl
theorem oq_X12_layNames_97 : cw_ho 212 97 (.iaload) 1 0 0 0 := rfl
theorem oq_X12_layNames_98 : cw_ho 212 98 (.iconst 2) 1 0 0 0 := rfl
theorem oq_X12_layNames_99 : cw_ho 212 99 (.if_icmp .ne 7) 3 0 0 0 := rfl
theorem oq_X12_layNames_102 : cw_ho 212 102 (.lconst 1) 1 0 0 0 := rfl
theorem oq_X12_layNames_103 : cw_ho 212 103 (.goto 4) 3 0 0 0 := rfl
theorem oq_X12_layNames_106 : cw_ho 212 106 (.lconst 0) 1 0 0 0 := rfl
theorem oq_X12_layNames_107 : cw_ho 212 107 (.lastore) 1 0 0 0 := rfl
theorem oq_X12_layNames_108 : cw_ho 212 108 (.aload_n 0) 1 0 0 0 := rfl
theorem oq_X12_layNames_109 : cw_ho 212 109 (.getfield 75) 3 12 46 4 := rfl
theorem oq_X12_layNames_112 : cw_ho 212 112 (.bipush 6) 2 0 0 0 := rfl
theorem oq_X12_layNames_114 : cw_ho 212 114 (.aload_n 0) 1 0 0 0 := rfl
theorem oq_X12_layNames_115 : cw_ho 212 115 (.iload_n 1) 1 0 0 0 := rfl
theorem oq_X12_layNames_116 : cw_ho 212 116 (.invokevirtual 386) 3 206 1 12 := rfl
theorem oq_X12_layNames_119 : cw_ho 212 119 (.i2l) 1 0 0 0 := rfl
theorem oq_X12_layNames_120 : cw_ho 212 120 (.lastore) 1 0 0 0 := rfl
theorem oq_X12_layNames_121 : cw_ho 212 121 (.aload_n 0) 1 0 0 0 := rfl
theorem oq_X12_layNames_122 : cw_ho 212 122 (.getfield 75) 3 12 46 4 := rfl
theorem oq_X12_layNames_125 : cw_ho 212 125 (.bipush 7) 2 0 0 0 := rfl
theorem oq_X12_layNames_127 : cw_ho 212 127 (.iload_n 2) 1 0 0 0 := rfl
theorem oq_X12_layNames_128 : cw_ho 212 128 (.i2l) 1 0 0 0 := rfl
theorem oq_X12_layNames_129 : cw_ho 212 129 (.lastore) 1 0 0 0 := rfl
theorem oq_X12_layNames_130 : cw_ho 212 130 (.aload_n 0) 1 0 0 0 := rfl
theorem oq_X12_layNames_131 : cw_ho 212 131 (.getfield 75) 3 12 46 4 := rfl
theorem oq_X12_layNames_134 : cw_ho 212 134 (.bipush 8) 2 0 0 0 := rfl
theorem oq_X12_layNames_136 : cw_ho 212 136 (.aload_n 0) 1 0 0 0 := rfl
theorem oq_X12_layNames_137 : cw_ho 212 137 (.getfield 72) 3 12 45 4 := rfl
theorem oq_X12_layNames_140 : cw_ho 212 140 (.bipush 8) 2 0 0 0 := rfl
theorem oq_X12_layNames_142 : cw_ho 212 142 (.iaload) 1 0 0 0 := rfl
theorem oq_X12_layNames_143 : cw_ho 212 143 (.i2l) 1 0 0 0 := rfl
theorem oq_X12_layNames_144 : cw_ho 212 144 (.lastore) 1 0 0 0 := rfl
theorem oq_X12_layNames_145 : cw_ho 212 145 (.aload_n 0) 1 0 0 0 := rfl
theorem oq_X12_layNames_146 : cw_ho 212 146 (.getfield 75) 3 12 46 4 := rfl
theorem oq_X12_layNames_149 : cw_ho 212 149 (.bipush 9) 2 0 0 0 := rfl
theorem oq_X12_layNames_151 : cw_ho 212 151 (.iload_n 3) 1 0 0 0 := rfl
theorem oq_X12_layNames_152 : cw_ho 212 152 (.i2l) 1 0 0 0 := rfl
theorem oq_X12_layNames_153 : cw_ho 212 153 (.lastore) 1 0 0 0 := rfl
theorem oq_X12_layNames_154 : cw_ho 212 154 (.return_) 1 0 0 0 := rfl
set_option maxHeartbeats 4000000 in
theorem rl_layNames (hT : cw_T G h) {g : Int32} {gn : Nat} (hg : g.toInt = gn) (hg4 : gn < 4) {T γ : Nat → Int} (gT : zGT h gn T) (nV : zNV h γ) (rT : gTR T) (rG : gGR γ) {f : Nat → Int} (hG : ∀ j, j < 12 → ri_at h 114 j = f j) (hf : ∀ j, 0 ≤ f j ∧ f j ≤ 100) {w fl : Int32} (hw : 0 ≤ w.toInt ∧ w.toInt ≤ 10000000) (hQ : ∀ h', cw_T G h' → cp_F 132 h h' → (∀ j, j < 10 → rl_at h' 132 j = gNm T γ (gFirm f w.toInt) w.toInt fl.toInt j) → Q (none, h')) : cw_X X 212 Q 0 (cv_ent 0 [cv_r 111, cv_i g, cv_i w, cv_i fl]) [] h := by
  have hgf : 0 ≤ gFirm f w.toInt ∧ gFirm f w.toInt ≤ 100 := hf _
  have rT' := rT
  have rG' := rG
  obtain ⟨rT0, rT1, rT2, rT3, rT5, rT6, rT7, rT8, rT9, rT10, rT11, rT12, rT13, rT14⟩ := rT'
  obtain ⟨rG1, rG2, rG3, rG4, rG5, rG6, rG7, rG8, rG9, rG10, rG11, rG12, rG13, rG14, rG15, rG16⟩ := rG'
  refine ex_al oq_X12_layNames_0 rfl ?_
  refine ex_gf oq_X12_layNames_1 hT (k := 111) (d := 12) rfl rfl (fr_names hT) ?_
  refine ex_ic oq_X12_layNames_4 (m := 0) (by decide) (fun x101 hx101 => ?_)
  refine ex_al oq_X12_layNames_5 rfl ?_
  refine ex_il oq_X12_layNames_6 rfl ?_
  refine ex_cv oq_X12_layNames_7 (by decide) hT (k := 111) (d := 12) (as := [cv_i g]) (stk := [cv_i x101, cv_r 132]) rfl rfl rfl rfl rfl rfl ⟨rfl, rfl⟩ (R := fun o => ∃ x : Int32, o = (some (cv_i x), h) ∧ x.toInt = gPull T (γ 9) (γ 7)) (rg_pull hT hg hg4 gT nV rT rG (fun x q => ⟨x, rfl, q⟩)) (fun o ho => ?_)
  obtain ⟨x102, rfl, hx102⟩ := ho
  show cw_X _ _ _ _ _ [cv_i x102, cv_i x101, cv_r 132] h
  refine ex_i2l oq_X12_layNames_10 (fun x103 hx103 => ?_)
  refine ex_lw oq_X12_layNames_11 hT (k := 132) (d := 71) (j := 0) rfl rfl (by omega) (by omega) (fun h104 Th104 wh104 => ?_)
  have ch104 : cp_F 132 h h104 := cp_w wh104 cp_0
  have gTh104 : zGT h104 gn T := fun j hj => (cp_ri ch104 (by decide)).trans (gT j hj)
  have nVh104 : zNV h104 γ := fun j hj => (cp_ri ch104 (by decide)).trans (nV j hj)
  have w0h104 : rl_at h104 132 0 = gPull T (γ 9) (γ 7) := (rl_self wh104).trans (by omega)
  refine ex_al oq_X12_layNames_12 rfl ?_
  refine ex_gf oq_X12_layNames_13 Th104 (k := 111) (d := 12) rfl rfl (fr_names Th104) ?_
  refine ex_ic oq_X12_layNames_16 (m := 1) (by decide) (fun x105 hx105 => ?_)
  refine ex_al oq_X12_layNames_17 rfl ?_
  refine ex_il oq_X12_layNames_18 rfl ?_
  refine ex_cv oq_X12_layNames_19 (by decide) Th104 (k := 111) (d := 12) (as := [cv_i w]) (stk := [cv_i x105, cv_r 132]) rfl rfl rfl rfl rfl rfl ⟨rfl, rfl⟩ (R := fun o => ∃ x : Int32, o = (some (cv_i x), h104) ∧ x.toInt = gFirm f w.toInt) (rg_firm Th104 (fun j hj => (cp_ri ch104 (by decide)).trans (hG j hj)) hw (fun x q => ⟨x, rfl, q⟩)) (fun o ho => ?_)
  obtain ⟨x106, rfl, hx106⟩ := ho
  show cw_X _ _ _ _ _ [cv_i x106, cv_i x105, cv_r 132] h104
  refine ex_al oq_X12_layNames_22 rfl ?_
  refine ex_gf oq_X12_layNames_23 Th104 (k := 111) (d := 12) rfl rfl (fr_now Th104) ?_
  refine ex_ic oq_X12_layNames_26 (m := 5) (by decide) (fun x107 hx107 => ?_)
  refine ex_ia1 oq_X12_layNames_27 Th104 (k := 131) (d := 70) (j := 5) rfl rfl (by omega) (by omega) (fun x108 hx108 lx108 ux108 => ?_)
  have hx108 := (hx108.symm.trans (nVh104 5 (by decide)) : x108.toInt = γ 8)
  refine ex_add oq_X12_layNames_28 (by omega) (fun x109 hx109 => ?_)
  refine ex_i2l oq_X12_layNames_29 (fun x110 hx110 => ?_)
  refine ex_lw oq_X12_layNames_30 Th104 (k := 132) (d := 71) (j := 1) rfl rfl (by omega) (by omega) (fun h111 Th111 wh111 => ?_)
  have ch111 : cp_F 132 h h111 := cp_w wh111 ch104
  have gTh111 : zGT h111 gn T := fun j hj => (cp_ri ch111 (by decide)).trans (gT j hj)
  have nVh111 : zNV h111 γ := fun j hj => (cp_ri ch111 (by decide)).trans (nV j hj)
  have w1h111 : rl_at h111 132 1 = gFirm f w.toInt + γ 8 := (rl_self wh111).trans (by omega)
  have w0h111 : rl_at h111 132 0 = gPull T (γ 9) (γ 7) := (rl_ne wh111 (.inr (by decide))).trans w0h104
  refine ex_al oq_X12_layNames_31 rfl ?_
  refine ex_gf oq_X12_layNames_32 Th111 (k := 111) (d := 12) rfl rfl (fr_names Th111) ?_
  refine ex_ic oq_X12_layNames_35 (m := 2) (by decide) (fun x112 hx112 => ?_)
  refine ex_al oq_X12_layNames_36 rfl ?_
  refine ex_gf oq_X12_layNames_37 Th111 (k := 111) (d := 12) rfl rfl (fr_now Th111) ?_
  refine ex_bi oq_X12_layNames_40 (m := 6) (by decide) (fun x113 hx113 => ?_)
  refine ex_ia1 oq_X12_layNames_42 Th111 (k := 131) (d := 70) (j := 6) rfl rfl (by omega) (by omega) (fun x114 hx114 lx114 ux114 => ?_)
  have hx114 := (hx114.symm.trans (nVh111 6 (by decide)) : x114.toInt = γ 5)
  refine ex_i2l oq_X12_layNames_43 (fun x115 hx115 => ?_)
  refine ex_lw oq_X12_layNames_44 Th111 (k := 132) (d := 71) (j := 2) rfl rfl (by omega) (by omega) (fun h116 Th116 wh116 => ?_)
  have ch116 : cp_F 132 h h116 := cp_w wh116 ch111
  have gTh116 : zGT h116 gn T := fun j hj => (cp_ri ch116 (by decide)).trans (gT j hj)
  have nVh116 : zNV h116 γ := fun j hj => (cp_ri ch116 (by decide)).trans (nV j hj)
  have w2h116 : rl_at h116 132 2 = γ 5 := (rl_self wh116).trans (by omega)
  have w0h116 : rl_at h116 132 0 = gPull T (γ 9) (γ 7) := (rl_ne wh116 (.inr (by decide))).trans w0h111
  have w1h116 : rl_at h116 132 1 = gFirm f w.toInt + γ 8 := (rl_ne wh116 (.inr (by decide))).trans w1h111
  refine ex_al oq_X12_layNames_45 rfl ?_
  refine ex_gf oq_X12_layNames_46 Th116 (k := 111) (d := 12) rfl rfl (fr_names Th116) ?_
  refine ex_ic oq_X12_layNames_49 (m := 3) (by decide) (fun x117 hx117 => ?_)
  refine ex_al oq_X12_layNames_50 rfl ?_
  refine ex_gf oq_X12_layNames_51 Th116 (k := 111) (d := 12) rfl rfl (fr_gateHas Th116) ?_
  refine ex_bi oq_X12_layNames_54 (m := 16) (by decide) (fun x118 hx118 => ?_)
  refine ex_il oq_X12_layNames_56 rfl ?_
  refine ex_mul oq_X12_layNames_57 (m := 16 * g.toInt) (by rw [hx118]) (by omega) (fun x119 hx119 => ?_)
  refine ex_bi oq_X12_layNames_58 (m := 8) (by decide) (fun x120 hx120 => ?_)
  refine ex_add oq_X12_layNames_60 (by omega) (fun x121 hx121 => ?_)
  refine ex_iap oq_X12_layNames_61 Th116 (k := 119) (d := 58) (j := 16 * gn + 8) rfl rfl (by omega) (by omega) (fun x122 hx122 => ?_)
  have hx122 := (hx122.symm.trans (gTh116 8 (by decide)) : x122.toInt = T 8)
  refine ex_i2l oq_X12_layNames_62 (fun x123 hx123 => ?_)
  refine ex_lw oq_X12_layNames_63 Th116 (k := 132) (d := 71) (j := 3) rfl rfl (by omega) (by omega) (fun h124 Th124 wh124 => ?_)
  have ch124 : cp_F 132 h h124 := cp_w wh124 ch116
  have gTh124 : zGT h124 gn T := fun j hj => (cp_ri ch124 (by decide)).trans (gT j hj)
  have nVh124 : zNV h124 γ := fun j hj => (cp_ri ch124 (by decide)).trans (nV j hj)
  have w3h124 : rl_at h124 132 3 = T 8 := (rl_self wh124).trans (by omega)
  have w0h124 : rl_at h124 132 0 = gPull T (γ 9) (γ 7) := (rl_ne wh124 (.inr (by decide))).trans w0h116
  have w1h124 : rl_at h124 132 1 = gFirm f w.toInt + γ 8 := (rl_ne wh124 (.inr (by decide))).trans w1h116
  have w2h124 : rl_at h124 132 2 = γ 5 := (rl_ne wh124 (.inr (by decide))).trans w2h116
  refine ex_al oq_X12_layNames_64 rfl ?_
  refine ex_gf oq_X12_layNames_65 Th124 (k := 111) (d := 12) rfl rfl (fr_names Th124) ?_
  refine ex_ic oq_X12_layNames_68 (m := 4) (by decide) (fun x125 hx125 => ?_)
  refine ex_al oq_X12_layNames_69 rfl ?_
  refine ex_gf oq_X12_layNames_70 Th124 (k := 111) (d := 12) rfl rfl (fr_now Th124) ?_
  refine ex_bi oq_X12_layNames_73 (m := 7) (by decide) (fun x126 hx126 => ?_)
  refine ex_ia1 oq_X12_layNames_75 Th124 (k := 131) (d := 70) (j := 7) rfl rfl (by omega) (by omega) (fun x127 hx127 lx127 ux127 => ?_)
  have hx127 := (hx127.symm.trans (nVh124 7 (by decide)) : x127.toInt = γ 6)
  refine ex_ic oq_X12_layNames_76 (m := 1) (by decide) (fun x128 hx128 => ?_)
  refine ex_if oq_X12_layNames_77 (t := 84) rfl rfl (fun (c129 : ¬ x127.toInt = x128.toInt) => ?_) (fun (c129 : ¬ (¬ x127.toInt = x128.toInt)) => ?_)
  · refine ex_lc oq_X12_layNames_84 (m := 0) (by decide) (fun x130 hx130 => ?_)
    refine ex_lw oq_X12_layNames_85 Th124 (k := 132) (d := 71) (j := 4) rfl rfl (by omega) (by omega) (fun h131 Th131 wh131 => ?_)
    have ch131 : cp_F 132 h h131 := cp_w wh131 ch124
    have gTh131 : zGT h131 gn T := fun j hj => (cp_ri ch131 (by decide)).trans (gT j hj)
    have nVh131 : zNV h131 γ := fun j hj => (cp_ri ch131 (by decide)).trans (nV j hj)
    have w4h131 : rl_at h131 132 4 = (if γ 6 = 1 then 1 else 0) := (rl_self wh131).trans (by rw [if_neg (by omega)]; omega)
    have w0h131 : rl_at h131 132 0 = gPull T (γ 9) (γ 7) := (rl_ne wh131 (.inr (by decide))).trans w0h124
    have w1h131 : rl_at h131 132 1 = gFirm f w.toInt + γ 8 := (rl_ne wh131 (.inr (by decide))).trans w1h124
    have w2h131 : rl_at h131 132 2 = γ 5 := (rl_ne wh131 (.inr (by decide))).trans w2h124
    have w3h131 : rl_at h131 132 3 = T 8 := (rl_ne wh131 (.inr (by decide))).trans w3h124
    refine ex_al oq_X12_layNames_86 rfl ?_
    refine ex_gf oq_X12_layNames_87 Th131 (k := 111) (d := 12) rfl rfl (fr_names Th131) ?_
    refine ex_ic oq_X12_layNames_90 (m := 5) (by decide) (fun x132 hx132 => ?_)
    refine ex_al oq_X12_layNames_91 rfl ?_
    refine ex_gf oq_X12_layNames_92 Th131 (k := 111) (d := 12) rfl rfl (fr_now Th131) ?_
    refine ex_bi oq_X12_layNames_95 (m := 7) (by decide) (fun x133 hx133 => ?_)
    refine ex_ia1 oq_X12_layNames_97 Th131 (k := 131) (d := 70) (j := 7) rfl rfl (by omega) (by omega) (fun x134 hx134 lx134 ux134 => ?_)
    have hx134 := (hx134.symm.trans (nVh131 7 (by decide)) : x134.toInt = γ 6)
    refine ex_ic oq_X12_layNames_98 (m := 2) (by decide) (fun x135 hx135 => ?_)
    refine ex_if oq_X12_layNames_99 (t := 106) rfl rfl (fun (c136 : ¬ x134.toInt = x135.toInt) => ?_) (fun (c136 : ¬ (¬ x134.toInt = x135.toInt)) => ?_)
    · refine ex_lc oq_X12_layNames_106 (m := 0) (by decide) (fun x137 hx137 => ?_)
      refine ex_lw oq_X12_layNames_107 Th131 (k := 132) (d := 71) (j := 5) rfl rfl (by omega) (by omega) (fun h138 Th138 wh138 => ?_)
      have ch138 : cp_F 132 h h138 := cp_w wh138 ch131
      have gTh138 : zGT h138 gn T := fun j hj => (cp_ri ch138 (by decide)).trans (gT j hj)
      have nVh138 : zNV h138 γ := fun j hj => (cp_ri ch138 (by decide)).trans (nV j hj)
      have w5h138 : rl_at h138 132 5 = (if γ 6 = 2 then 1 else 0) := (rl_self wh138).trans (by rw [if_neg (by omega)]; omega)
      have w0h138 : rl_at h138 132 0 = gPull T (γ 9) (γ 7) := (rl_ne wh138 (.inr (by decide))).trans w0h131
      have w1h138 : rl_at h138 132 1 = gFirm f w.toInt + γ 8 := (rl_ne wh138 (.inr (by decide))).trans w1h131
      have w2h138 : rl_at h138 132 2 = γ 5 := (rl_ne wh138 (.inr (by decide))).trans w2h131
      have w3h138 : rl_at h138 132 3 = T 8 := (rl_ne wh138 (.inr (by decide))).trans w3h131
      have w4h138 : rl_at h138 132 4 = (if γ 6 = 1 then 1 else 0) := (rl_ne wh138 (.inr (by decide))).trans w4h131
      refine ex_al oq_X12_layNames_108 rfl ?_
      refine ex_gf oq_X12_layNames_109 Th138 (k := 111) (d := 12) rfl rfl (fr_names Th138) ?_
      refine ex_bi oq_X12_layNames_112 (m := 6) (by decide) (fun x139 hx139 => ?_)
      refine ex_al oq_X12_layNames_114 rfl ?_
      refine ex_il oq_X12_layNames_115 rfl ?_
      refine ex_cv oq_X12_layNames_116 (by decide) Th138 (k := 111) (d := 12) (as := [cv_i g]) (stk := [cv_i x139, cv_r 132]) rfl rfl rfl rfl rfl rfl ⟨rfl, rfl⟩ (R := fun o => ∃ x : Int32, o = (some (cv_i x), h138) ∧ x.toInt = gDrop T (γ 1) (γ 2) (γ 3) (γ 4)) (rg_drop Th138 hg hg4 gTh138 nVh138 rT rG (fun x q => ⟨x, rfl, q⟩)) (fun o ho => ?_)
      obtain ⟨x140, rfl, hx140⟩ := ho
      show cw_X _ _ _ _ _ [cv_i x140, cv_i x139, cv_r 132] h138
      refine ex_i2l oq_X12_layNames_119 (fun x141 hx141 => ?_)
      refine ex_lw oq_X12_layNames_120 Th138 (k := 132) (d := 71) (j := 6) rfl rfl (by omega) (by omega) (fun h142 Th142 wh142 => ?_)
      have ch142 : cp_F 132 h h142 := cp_w wh142 ch138
      have gTh142 : zGT h142 gn T := fun j hj => (cp_ri ch142 (by decide)).trans (gT j hj)
      have nVh142 : zNV h142 γ := fun j hj => (cp_ri ch142 (by decide)).trans (nV j hj)
      have w6h142 : rl_at h142 132 6 = gDrop T (γ 1) (γ 2) (γ 3) (γ 4) := (rl_self wh142).trans (by omega)
      have w0h142 : rl_at h142 132 0 = gPull T (γ 9) (γ 7) := (rl_ne wh142 (.inr (by decide))).trans w0h138
      have w1h142 : rl_at h142 132 1 = gFirm f w.toInt + γ 8 := (rl_ne wh142 (.inr (by decide))).trans w1h138
      have w2h142 : rl_at h142 132 2 = γ 5 := (rl_ne wh142 (.inr (by decide))).trans w2h138
      have w3h142 : rl_at h142 132 3 = T 8 := (rl_ne wh142 (.inr (by decide))).trans w3h138
      have w4h142 : rl_at h142 132 4 = (if γ 6 = 1 then 1 else 0) := (rl_ne wh142 (.inr (by decide))).trans w4h138
      have w5h142 : rl_at h142 132 5 = (if γ 6 = 2 then 1 else 0) := (rl_ne wh142 (.inr (by decide))).trans w5h138
      refine ex_al oq_X12_layNames_121 rfl ?_
      refine ex_gf oq_X12_layNames_122 Th142 (k := 111) (d := 12) rfl rfl (fr_names Th142) ?_
      refine ex_bi oq_X12_layNames_125 (m := 7) (by decide) (fun x143 hx143 => ?_)
      refine ex_il oq_X12_layNames_127 rfl ?_
      refine ex_i2l oq_X12_layNames_128 (fun x144 hx144 => ?_)
      refine ex_lw oq_X12_layNames_129 Th142 (k := 132) (d := 71) (j := 7) rfl rfl (by omega) (by omega) (fun h145 Th145 wh145 => ?_)
      have ch145 : cp_F 132 h h145 := cp_w wh145 ch142
      have gTh145 : zGT h145 gn T := fun j hj => (cp_ri ch145 (by decide)).trans (gT j hj)
      have nVh145 : zNV h145 γ := fun j hj => (cp_ri ch145 (by decide)).trans (nV j hj)
      have w7h145 : rl_at h145 132 7 = w.toInt := (rl_self wh145).trans (by omega)
      have w0h145 : rl_at h145 132 0 = gPull T (γ 9) (γ 7) := (rl_ne wh145 (.inr (by decide))).trans w0h142
      have w1h145 : rl_at h145 132 1 = gFirm f w.toInt + γ 8 := (rl_ne wh145 (.inr (by decide))).trans w1h142
      have w2h145 : rl_at h145 132 2 = γ 5 := (rl_ne wh145 (.inr (by decide))).trans w2h142
      have w3h145 : rl_at h145 132 3 = T 8 := (rl_ne wh145 (.inr (by decide))).trans w3h142
      have w4h145 : rl_at h145 132 4 = (if γ 6 = 1 then 1 else 0) := (rl_ne wh145 (.inr (by decide))).trans w4h142
      have w5h145 : rl_at h145 132 5 = (if γ 6 = 2 then 1 else 0) := (rl_ne wh145 (.inr (by decide))).trans w5h142
      have w6h145 : rl_at h145 132 6 = gDrop T (γ 1) (γ 2) (γ 3) (γ 4) := (rl_ne wh145 (.inr (by decide))).trans w6h142
      refine ex_al oq_X12_layNames_130 rfl ?_
      refine ex_gf oq_X12_layNames_131 Th145 (k := 111) (d := 12) rfl rfl (fr_names Th145) ?_
      refine ex_bi oq_X12_layNames_134 (m := 8) (by decide) (fun x146 hx146 => ?_)
      refine ex_al oq_X12_layNames_136 rfl ?_
      refine ex_gf oq_X12_layNames_137 Th145 (k := 111) (d := 12) rfl rfl (fr_now Th145) ?_
      refine ex_bi oq_X12_layNames_140 (m := 8) (by decide) (fun x147 hx147 => ?_)
      refine ex_ia1 oq_X12_layNames_142 Th145 (k := 131) (d := 70) (j := 8) rfl rfl (by omega) (by omega) (fun x148 hx148 lx148 ux148 => ?_)
      have hx148 := (hx148.symm.trans (nVh145 8 (by decide)) : x148.toInt = γ 9)
      refine ex_i2l oq_X12_layNames_143 (fun x149 hx149 => ?_)
      refine ex_lw oq_X12_layNames_144 Th145 (k := 132) (d := 71) (j := 8) rfl rfl (by omega) (by omega) (fun h150 Th150 wh150 => ?_)
      have ch150 : cp_F 132 h h150 := cp_w wh150 ch145
      have gTh150 : zGT h150 gn T := fun j hj => (cp_ri ch150 (by decide)).trans (gT j hj)
      have nVh150 : zNV h150 γ := fun j hj => (cp_ri ch150 (by decide)).trans (nV j hj)
      have w8h150 : rl_at h150 132 8 = γ 9 := (rl_self wh150).trans (by omega)
      have w0h150 : rl_at h150 132 0 = gPull T (γ 9) (γ 7) := (rl_ne wh150 (.inr (by decide))).trans w0h145
      have w1h150 : rl_at h150 132 1 = gFirm f w.toInt + γ 8 := (rl_ne wh150 (.inr (by decide))).trans w1h145
      have w2h150 : rl_at h150 132 2 = γ 5 := (rl_ne wh150 (.inr (by decide))).trans w2h145
      have w3h150 : rl_at h150 132 3 = T 8 := (rl_ne wh150 (.inr (by decide))).trans w3h145
      have w4h150 : rl_at h150 132 4 = (if γ 6 = 1 then 1 else 0) := (rl_ne wh150 (.inr (by decide))).trans w4h145
      have w5h150 : rl_at h150 132 5 = (if γ 6 = 2 then 1 else 0) := (rl_ne wh150 (.inr (by decide))).trans w5h145
      have w6h150 : rl_at h150 132 6 = gDrop T (γ 1) (γ 2) (γ 3) (γ 4) := (rl_ne wh150 (.inr (by decide))).trans w6h145
      have w7h150 : rl_at h150 132 7 = w.toInt := (rl_ne wh150 (.inr (by decide))).trans w7h145
      refine ex_al oq_X12_layNames_145 rfl ?_
      refine ex_gf oq_X12_layNames_146 Th150 (k := 111) (d := 12) rfl rfl (fr_names Th150) ?_
      refine ex_bi oq_X12_layNames_149 (m := 9) (by decide) (fun x151 hx151 => ?_)
      refine ex_il oq_X12_layNames_151 rfl ?_
      refine ex_i2l oq_X12_layNames_152 (fun x152 hx152 => ?_)
      refine ex_lw oq_X12_layNames_153 Th150 (k := 132) (d := 71) (j := 9) rfl rfl (by omega) (by omega) (fun h153 Th153 wh153 => ?_)
      have ch153 : cp_F 132 h h153 := cp_w wh153 ch150
      have gTh153 : zGT h153 gn T := fun j hj => (cp_ri ch153 (by decide)).trans (gT j hj)
      have nVh153 : zNV h153 γ := fun j hj => (cp_ri ch153 (by decide)).trans (nV j hj)
      have w9h153 : rl_at h153 132 9 = fl.toInt := (rl_self wh153).trans (by omega)
      have w0h153 : rl_at h153 132 0 = gPull T (γ 9) (γ 7) := (rl_ne wh153 (.inr (by decide))).trans w0h150
      have w1h153 : rl_at h153 132 1 = gFirm f w.toInt + γ 8 := (rl_ne wh153 (.inr (by decide))).trans w1h150
      have w2h153 : rl_at h153 132 2 = γ 5 := (rl_ne wh153 (.inr (by decide))).trans w2h150
      have w3h153 : rl_at h153 132 3 = T 8 := (rl_ne wh153 (.inr (by decide))).trans w3h150
      have w4h153 : rl_at h153 132 4 = (if γ 6 = 1 then 1 else 0) := (rl_ne wh153 (.inr (by decide))).trans w4h150
      have w5h153 : rl_at h153 132 5 = (if γ 6 = 2 then 1 else 0) := (rl_ne wh153 (.inr (by decide))).trans w5h150
      have w6h153 : rl_at h153 132 6 = gDrop T (γ 1) (γ 2) (γ 3) (γ 4) := (rl_ne wh153 (.inr (by decide))).trans w6h150
      have w7h153 : rl_at h153 132 7 = w.toInt := (rl_ne wh153 (.inr (by decide))).trans w7h150
      have w8h153 : rl_at h153 132 8 = γ 9 := (rl_ne wh153 (.inr (by decide))).trans w8h150
      refine ex_retv oq_X12_layNames_154 rfl (hQ h153 Th153 ch153 (fun j hj => ?_))
      have : j = 0 ∨ j = 1 ∨ j = 2 ∨ j = 3 ∨ j = 4 ∨ j = 5 ∨ j = 6 ∨ j = 7 ∨ j = 8 ∨ j = 9 := by omega
      rcases this with rfl | rfl | rfl | rfl | rfl | rfl | rfl | rfl | rfl | rfl
      · exact w0h153
      · exact w1h153
      · exact w2h153
      · exact w3h153
      · exact w4h153
      · exact w5h153
      · exact w6h153
      · exact w7h153
      · exact w8h153
      · exact w9h153
    · refine ex_lc oq_X12_layNames_102 (m := 1) (by decide) (fun x154 hx154 => ?_)
      refine ex_go oq_X12_layNames_103 (t := 107) rfl rfl ?_
      refine ex_lw oq_X12_layNames_107 Th131 (k := 132) (d := 71) (j := 5) rfl rfl (by omega) (by omega) (fun h155 Th155 wh155 => ?_)
      have ch155 : cp_F 132 h h155 := cp_w wh155 ch131
      have gTh155 : zGT h155 gn T := fun j hj => (cp_ri ch155 (by decide)).trans (gT j hj)
      have nVh155 : zNV h155 γ := fun j hj => (cp_ri ch155 (by decide)).trans (nV j hj)
      have w5h155 : rl_at h155 132 5 = (if γ 6 = 2 then 1 else 0) := (rl_self wh155).trans (by rw [if_pos (by omega)]; omega)
      have w0h155 : rl_at h155 132 0 = gPull T (γ 9) (γ 7) := (rl_ne wh155 (.inr (by decide))).trans w0h131
      have w1h155 : rl_at h155 132 1 = gFirm f w.toInt + γ 8 := (rl_ne wh155 (.inr (by decide))).trans w1h131
      have w2h155 : rl_at h155 132 2 = γ 5 := (rl_ne wh155 (.inr (by decide))).trans w2h131
      have w3h155 : rl_at h155 132 3 = T 8 := (rl_ne wh155 (.inr (by decide))).trans w3h131
      have w4h155 : rl_at h155 132 4 = (if γ 6 = 1 then 1 else 0) := (rl_ne wh155 (.inr (by decide))).trans w4h131
      refine ex_al oq_X12_layNames_108 rfl ?_
      refine ex_gf oq_X12_layNames_109 Th155 (k := 111) (d := 12) rfl rfl (fr_names Th155) ?_
      refine ex_bi oq_X12_layNames_112 (m := 6) (by decide) (fun x156 hx156 => ?_)
      refine ex_al oq_X12_layNames_114 rfl ?_
      refine ex_il oq_X12_layNames_115 rfl ?_
      refine ex_cv oq_X12_layNames_116 (by decide) Th155 (k := 111) (d := 12) (as := [cv_i g]) (stk := [cv_i x156, cv_r 132]) rfl rfl rfl rfl rfl rfl ⟨rfl, rfl⟩ (R := fun o => ∃ x : Int32, o = (some (cv_i x), h155) ∧ x.toInt = gDrop T (γ 1) (γ 2) (γ 3) (γ 4)) (rg_drop Th155 hg hg4 gTh155 nVh155 rT rG (fun x q => ⟨x, rfl, q⟩)) (fun o ho => ?_)
      obtain ⟨x157, rfl, hx157⟩ := ho
      show cw_X _ _ _ _ _ [cv_i x157, cv_i x156, cv_r 132] h155
      refine ex_i2l oq_X12_layNames_119 (fun x158 hx158 => ?_)
      refine ex_lw oq_X12_layNames_120 Th155 (k := 132) (d := 71) (j := 6) rfl rfl (by omega) (by omega) (fun h159 Th159 wh159 => ?_)
      have ch159 : cp_F 132 h h159 := cp_w wh159 ch155
      have gTh159 : zGT h159 gn T := fun j hj => (cp_ri ch159 (by decide)).trans (gT j hj)
      have nVh159 : zNV h159 γ := fun j hj => (cp_ri ch159 (by decide)).trans (nV j hj)
      have w6h159 : rl_at h159 132 6 = gDrop T (γ 1) (γ 2) (γ 3) (γ 4) := (rl_self wh159).trans (by omega)
      have w0h159 : rl_at h159 132 0 = gPull T (γ 9) (γ 7) := (rl_ne wh159 (.inr (by decide))).trans w0h155
      have w1h159 : rl_at h159 132 1 = gFirm f w.toInt + γ 8 := (rl_ne wh159 (.inr (by decide))).trans w1h155
      have w2h159 : rl_at h159 132 2 = γ 5 := (rl_ne wh159 (.inr (by decide))).trans w2h155
      have w3h159 : rl_at h159 132 3 = T 8 := (rl_ne wh159 (.inr (by decide))).trans w3h155
      have w4h159 : rl_at h159 132 4 = (if γ 6 = 1 then 1 else 0) := (rl_ne wh159 (.inr (by decide))).trans w4h155
      have w5h159 : rl_at h159 132 5 = (if γ 6 = 2 then 1 else 0) := (rl_ne wh159 (.inr (by decide))).trans w5h155
      refine ex_al oq_X12_layNames_121 rfl ?_
      refine ex_gf oq_X12_layNames_122 Th159 (k := 111) (d := 12) rfl rfl (fr_names Th159) ?_
      refine ex_bi oq_X12_layNames_125 (m := 7) (by decide) (fun x160 hx160 => ?_)
      refine ex_il oq_X12_layNames_127 rfl ?_
      refine ex_i2l oq_X12_layNames_128 (fun x161 hx161 => ?_)
      refine ex_lw oq_X12_layNames_129 Th159 (k := 132) (d := 71) (j := 7) rfl rfl (by omega) (by omega) (fun h162 Th162 wh162 => ?_)
      have ch162 : cp_F 132 h h162 := cp_w wh162 ch159
      have gTh162 : zGT h162 gn T := fun j hj => (cp_ri ch162 (by decide)).trans (gT j hj)
      have nVh162 : zNV h162 γ := fun j hj => (cp_ri ch162 (by decide)).trans (nV j hj)
      have w7h162 : rl_at h162 132 7 = w.toInt := (rl_self wh162).trans (by omega)
      have w0h162 : rl_at h162 132 0 = gPull T (γ 9) (γ 7) := (rl_ne wh162 (.inr (by decide))).trans w0h159
      have w1h162 : rl_at h162 132 1 = gFirm f w.toInt + γ 8 := (rl_ne wh162 (.inr (by decide))).trans w1h159
      have w2h162 : rl_at h162 132 2 = γ 5 := (rl_ne wh162 (.inr (by decide))).trans w2h159
      have w3h162 : rl_at h162 132 3 = T 8 := (rl_ne wh162 (.inr (by decide))).trans w3h159
      have w4h162 : rl_at h162 132 4 = (if γ 6 = 1 then 1 else 0) := (rl_ne wh162 (.inr (by decide))).trans w4h159
      have w5h162 : rl_at h162 132 5 = (if γ 6 = 2 then 1 else 0) := (rl_ne wh162 (.inr (by decide))).trans w5h159
      have w6h162 : rl_at h162 132 6 = gDrop T (γ 1) (γ 2) (γ 3) (γ 4) := (rl_ne wh162 (.inr (by decide))).trans w6h159
      refine ex_al oq_X12_layNames_130 rfl ?_
      refine ex_gf oq_X12_layNames_131 Th162 (k := 111) (d := 12) rfl rfl (fr_names Th162) ?_
      refine ex_bi oq_X12_layNames_134 (m := 8) (by decide) (fun x163 hx163 => ?_)
      refine ex_al oq_X12_layNames_136 rfl ?_
      refine ex_gf oq_X12_layNames_137 Th162 (k := 111) (d := 12) rfl rfl (fr_now Th162) ?_
      refine ex_bi oq_X12_layNames_140 (m := 8) (by decide) (fun x164 hx164 => ?_)
      refine ex_ia1 oq_X12_layNames_142 Th162 (k := 131) (d := 70) (j := 8) rfl rfl (by omega) (by omega) (fun x165 hx165 lx165 ux165 => ?_)
      have hx165 := (hx165.symm.trans (nVh162 8 (by decide)) : x165.toInt = γ 9)
      refine ex_i2l oq_X12_layNames_143 (fun x166 hx166 => ?_)
      refine ex_lw oq_X12_layNames_144 Th162 (k := 132) (d := 71) (j := 8) rfl rfl (by omega) (by omega) (fun h167 Th167 wh167 => ?_)
      have ch167 : cp_F 132 h h167 := cp_w wh167 ch162
      have gTh167 : zGT h167 gn T := fun j hj => (cp_ri ch167 (by decide)).trans (gT j hj)
      have nVh167 : zNV h167 γ := fun j hj => (cp_ri ch167 (by decide)).trans (nV j hj)
      have w8h167 : rl_at h167 132 8 = γ 9 := (rl_self wh167).trans (by omega)
      have w0h167 : rl_at h167 132 0 = gPull T (γ 9) (γ 7) := (rl_ne wh167 (.inr (by decide))).trans w0h162
      have w1h167 : rl_at h167 132 1 = gFirm f w.toInt + γ 8 := (rl_ne wh167 (.inr (by decide))).trans w1h162
      have w2h167 : rl_at h167 132 2 = γ 5 := (rl_ne wh167 (.inr (by decide))).trans w2h162
      have w3h167 : rl_at h167 132 3 = T 8 := (rl_ne wh167 (.inr (by decide))).trans w3h162
      have w4h167 : rl_at h167 132 4 = (if γ 6 = 1 then 1 else 0) := (rl_ne wh167 (.inr (by decide))).trans w4h162
      have w5h167 : rl_at h167 132 5 = (if γ 6 = 2 then 1 else 0) := (rl_ne wh167 (.inr (by decide))).trans w5h162
      have w6h167 : rl_at h167 132 6 = gDrop T (γ 1) (γ 2) (γ 3) (γ 4) := (rl_ne wh167 (.inr (by decide))).trans w6h162
      have w7h167 : rl_at h167 132 7 = w.toInt := (rl_ne wh167 (.inr (by decide))).trans w7h162
      refine ex_al oq_X12_layNames_145 rfl ?_
      refine ex_gf oq_X12_layNames_146 Th167 (k := 111) (d := 12) rfl rfl (fr_names Th167) ?_
      refine ex_bi oq_X12_layNames_149 (m := 9) (by decide) (fun x168 hx168 => ?_)
      refine ex_il oq_X12_layNames_151 rfl ?_
      refine ex_i2l oq_X12_layNames_152 (fun x169 hx169 => ?_)
      refine ex_lw oq_X12_layNames_153 Th167 (k := 132) (d := 71) (j := 9) rfl rfl (by omega) (by omega) (fun h170 Th170 wh170 => ?_)
      have ch170 : cp_F 132 h h170 := cp_w wh170 ch167
      have gTh170 : zGT h170 gn T := fun j hj => (cp_ri ch170 (by decide)).trans (gT j hj)
      have nVh170 : zNV h170 γ := fun j hj => (cp_ri ch170 (by decide)).trans (nV j hj)
      have w9h170 : rl_at h170 132 9 = fl.toInt := (rl_self wh170).trans (by omega)
      have w0h170 : rl_at h170 132 0 = gPull T (γ 9) (γ 7) := (rl_ne wh170 (.inr (by decide))).trans w0h167
      have w1h170 : rl_at h170 132 1 = gFirm f w.toInt + γ 8 := (rl_ne wh170 (.inr (by decide))).trans w1h167
      have w2h170 : rl_at h170 132 2 = γ 5 := (rl_ne wh170 (.inr (by decide))).trans w2h167
      have w3h170 : rl_at h170 132 3 = T 8 := (rl_ne wh170 (.inr (by decide))).trans w3h167
      have w4h170 : rl_at h170 132 4 = (if γ 6 = 1 then 1 else 0) := (rl_ne wh170 (.inr (by decide))).trans w4h167
      have w5h170 : rl_at h170 132 5 = (if γ 6 = 2 then 1 else 0) := (rl_ne wh170 (.inr (by decide))).trans w5h167
      have w6h170 : rl_at h170 132 6 = gDrop T (γ 1) (γ 2) (γ 3) (γ 4) := (rl_ne wh170 (.inr (by decide))).trans w6h167
      have w7h170 : rl_at h170 132 7 = w.toInt := (rl_ne wh170 (.inr (by decide))).trans w7h167
      have w8h170 : rl_at h170 132 8 = γ 9 := (rl_ne wh170 (.inr (by decide))).trans w8h167
      refine ex_retv oq_X12_layNames_154 rfl (hQ h170 Th170 ch170 (fun j hj => ?_))
      have : j = 0 ∨ j = 1 ∨ j = 2 ∨ j = 3 ∨ j = 4 ∨ j = 5 ∨ j = 6 ∨ j = 7 ∨ j = 8 ∨ j = 9 := by omega
      rcases this with rfl | rfl | rfl | rfl | rfl | rfl | rfl | rfl | rfl | rfl
      · exact w0h170
      · exact w1h170
      · exact w2h170
      · exact w3h170
      · exact w4h170
      · exact w5h170
      · exact w6h170
      · exact w7h170
      · exact w8h170
      · exact w9h170
  · refine ex_lc oq_X12_layNames_80 (m := 1) (by decide) (fun x171 hx171 => ?_)
    refine ex_go oq_X12_layNames_81 (t := 85) rfl rfl ?_
    refine ex_lw oq_X12_layNames_85 Th124 (k := 132) (d := 71) (j := 4) rfl rfl (by omega) (by omega) (fun h172 Th172 wh172 => ?_)
    have ch172 : cp_F 132 h h172 := cp_w wh172 ch124
    have gTh172 : zGT h172 gn T := fun j hj => (cp_ri ch172 (by decide)).trans (gT j hj)
    have nVh172 : zNV h172 γ := fun j hj => (cp_ri ch172 (by decide)).trans (nV j hj)
    have w4h172 : rl_at h172 132 4 = (if γ 6 = 1 then 1 else 0) := (rl_self wh172).trans (by rw [if_pos (by omega)]; omega)
    have w0h172 : rl_at h172 132 0 = gPull T (γ 9) (γ 7) := (rl_ne wh172 (.inr (by decide))).trans w0h124
    have w1h172 : rl_at h172 132 1 = gFirm f w.toInt + γ 8 := (rl_ne wh172 (.inr (by decide))).trans w1h124
    have w2h172 : rl_at h172 132 2 = γ 5 := (rl_ne wh172 (.inr (by decide))).trans w2h124
    have w3h172 : rl_at h172 132 3 = T 8 := (rl_ne wh172 (.inr (by decide))).trans w3h124
    refine ex_al oq_X12_layNames_86 rfl ?_
    refine ex_gf oq_X12_layNames_87 Th172 (k := 111) (d := 12) rfl rfl (fr_names Th172) ?_
    refine ex_ic oq_X12_layNames_90 (m := 5) (by decide) (fun x173 hx173 => ?_)
    refine ex_al oq_X12_layNames_91 rfl ?_
    refine ex_gf oq_X12_layNames_92 Th172 (k := 111) (d := 12) rfl rfl (fr_now Th172) ?_
    refine ex_bi oq_X12_layNames_95 (m := 7) (by decide) (fun x174 hx174 => ?_)
    refine ex_ia1 oq_X12_layNames_97 Th172 (k := 131) (d := 70) (j := 7) rfl rfl (by omega) (by omega) (fun x175 hx175 lx175 ux175 => ?_)
    have hx175 := (hx175.symm.trans (nVh172 7 (by decide)) : x175.toInt = γ 6)
    refine ex_ic oq_X12_layNames_98 (m := 2) (by decide) (fun x176 hx176 => ?_)
    refine ex_if oq_X12_layNames_99 (t := 106) rfl rfl (fun (c177 : ¬ x175.toInt = x176.toInt) => ?_) (fun (c177 : ¬ (¬ x175.toInt = x176.toInt)) => ?_)
    · refine ex_lc oq_X12_layNames_106 (m := 0) (by decide) (fun x178 hx178 => ?_)
      refine ex_lw oq_X12_layNames_107 Th172 (k := 132) (d := 71) (j := 5) rfl rfl (by omega) (by omega) (fun h179 Th179 wh179 => ?_)
      have ch179 : cp_F 132 h h179 := cp_w wh179 ch172
      have gTh179 : zGT h179 gn T := fun j hj => (cp_ri ch179 (by decide)).trans (gT j hj)
      have nVh179 : zNV h179 γ := fun j hj => (cp_ri ch179 (by decide)).trans (nV j hj)
      have w5h179 : rl_at h179 132 5 = (if γ 6 = 2 then 1 else 0) := (rl_self wh179).trans (by rw [if_neg (by omega)]; omega)
      have w0h179 : rl_at h179 132 0 = gPull T (γ 9) (γ 7) := (rl_ne wh179 (.inr (by decide))).trans w0h172
      have w1h179 : rl_at h179 132 1 = gFirm f w.toInt + γ 8 := (rl_ne wh179 (.inr (by decide))).trans w1h172
      have w2h179 : rl_at h179 132 2 = γ 5 := (rl_ne wh179 (.inr (by decide))).trans w2h172
      have w3h179 : rl_at h179 132 3 = T 8 := (rl_ne wh179 (.inr (by decide))).trans w3h172
      have w4h179 : rl_at h179 132 4 = (if γ 6 = 1 then 1 else 0) := (rl_ne wh179 (.inr (by decide))).trans w4h172
      refine ex_al oq_X12_layNames_108 rfl ?_
      refine ex_gf oq_X12_layNames_109 Th179 (k := 111) (d := 12) rfl rfl (fr_names Th179) ?_
      refine ex_bi oq_X12_layNames_112 (m := 6) (by decide) (fun x180 hx180 => ?_)
      refine ex_al oq_X12_layNames_114 rfl ?_
      refine ex_il oq_X12_layNames_115 rfl ?_
      refine ex_cv oq_X12_layNames_116 (by decide) Th179 (k := 111) (d := 12) (as := [cv_i g]) (stk := [cv_i x180, cv_r 132]) rfl rfl rfl rfl rfl rfl ⟨rfl, rfl⟩ (R := fun o => ∃ x : Int32, o = (some (cv_i x), h179) ∧ x.toInt = gDrop T (γ 1) (γ 2) (γ 3) (γ 4)) (rg_drop Th179 hg hg4 gTh179 nVh179 rT rG (fun x q => ⟨x, rfl, q⟩)) (fun o ho => ?_)
      obtain ⟨x181, rfl, hx181⟩ := ho
      show cw_X _ _ _ _ _ [cv_i x181, cv_i x180, cv_r 132] h179
      refine ex_i2l oq_X12_layNames_119 (fun x182 hx182 => ?_)
      refine ex_lw oq_X12_layNames_120 Th179 (k := 132) (d := 71) (j := 6) rfl rfl (by omega) (by omega) (fun h183 Th183 wh183 => ?_)
      have ch183 : cp_F 132 h h183 := cp_w wh183 ch179
      have gTh183 : zGT h183 gn T := fun j hj => (cp_ri ch183 (by decide)).trans (gT j hj)
      have nVh183 : zNV h183 γ := fun j hj => (cp_ri ch183 (by decide)).trans (nV j hj)
      have w6h183 : rl_at h183 132 6 = gDrop T (γ 1) (γ 2) (γ 3) (γ 4) := (rl_self wh183).trans (by omega)
      have w0h183 : rl_at h183 132 0 = gPull T (γ 9) (γ 7) := (rl_ne wh183 (.inr (by decide))).trans w0h179
      have w1h183 : rl_at h183 132 1 = gFirm f w.toInt + γ 8 := (rl_ne wh183 (.inr (by decide))).trans w1h179
      have w2h183 : rl_at h183 132 2 = γ 5 := (rl_ne wh183 (.inr (by decide))).trans w2h179
      have w3h183 : rl_at h183 132 3 = T 8 := (rl_ne wh183 (.inr (by decide))).trans w3h179
      have w4h183 : rl_at h183 132 4 = (if γ 6 = 1 then 1 else 0) := (rl_ne wh183 (.inr (by decide))).trans w4h179
      have w5h183 : rl_at h183 132 5 = (if γ 6 = 2 then 1 else 0) := (rl_ne wh183 (.inr (by decide))).trans w5h179
      refine ex_al oq_X12_layNames_121 rfl ?_
      refine ex_gf oq_X12_layNames_122 Th183 (k := 111) (d := 12) rfl rfl (fr_names Th183) ?_
      refine ex_bi oq_X12_layNames_125 (m := 7) (by decide) (fun x184 hx184 => ?_)
      refine ex_il oq_X12_layNames_127 rfl ?_
      refine ex_i2l oq_X12_layNames_128 (fun x185 hx185 => ?_)
      refine ex_lw oq_X12_layNames_129 Th183 (k := 132) (d := 71) (j := 7) rfl rfl (by omega) (by omega) (fun h186 Th186 wh186 => ?_)
      have ch186 : cp_F 132 h h186 := cp_w wh186 ch183
      have gTh186 : zGT h186 gn T := fun j hj => (cp_ri ch186 (by decide)).trans (gT j hj)
      have nVh186 : zNV h186 γ := fun j hj => (cp_ri ch186 (by decide)).trans (nV j hj)
      have w7h186 : rl_at h186 132 7 = w.toInt := (rl_self wh186).trans (by omega)
      have w0h186 : rl_at h186 132 0 = gPull T (γ 9) (γ 7) := (rl_ne wh186 (.inr (by decide))).trans w0h183
      have w1h186 : rl_at h186 132 1 = gFirm f w.toInt + γ 8 := (rl_ne wh186 (.inr (by decide))).trans w1h183
      have w2h186 : rl_at h186 132 2 = γ 5 := (rl_ne wh186 (.inr (by decide))).trans w2h183
      have w3h186 : rl_at h186 132 3 = T 8 := (rl_ne wh186 (.inr (by decide))).trans w3h183
      have w4h186 : rl_at h186 132 4 = (if γ 6 = 1 then 1 else 0) := (rl_ne wh186 (.inr (by decide))).trans w4h183
      have w5h186 : rl_at h186 132 5 = (if γ 6 = 2 then 1 else 0) := (rl_ne wh186 (.inr (by decide))).trans w5h183
      have w6h186 : rl_at h186 132 6 = gDrop T (γ 1) (γ 2) (γ 3) (γ 4) := (rl_ne wh186 (.inr (by decide))).trans w6h183
      refine ex_al oq_X12_layNames_130 rfl ?_
      refine ex_gf oq_X12_layNames_131 Th186 (k := 111) (d := 12) rfl rfl (fr_names Th186) ?_
      refine ex_bi oq_X12_layNames_134 (m := 8) (by decide) (fun x187 hx187 => ?_)
      refine ex_al oq_X12_layNames_136 rfl ?_
      refine ex_gf oq_X12_layNames_137 Th186 (k := 111) (d := 12) rfl rfl (fr_now Th186) ?_
      refine ex_bi oq_X12_layNames_140 (m := 8) (by decide) (fun x188 hx188 => ?_)
      refine ex_ia1 oq_X12_layNames_142 Th186 (k := 131) (d := 70) (j := 8) rfl rfl (by omega) (by omega) (fun x189 hx189 lx189 ux189 => ?_)
      have hx189 := (hx189.symm.trans (nVh186 8 (by decide)) : x189.toInt = γ 9)
      refine ex_i2l oq_X12_layNames_143 (fun x190 hx190 => ?_)
      refine ex_lw oq_X12_layNames_144 Th186 (k := 132) (d := 71) (j := 8) rfl rfl (by omega) (by omega) (fun h191 Th191 wh191 => ?_)
      have ch191 : cp_F 132 h h191 := cp_w wh191 ch186
      have gTh191 : zGT h191 gn T := fun j hj => (cp_ri ch191 (by decide)).trans (gT j hj)
      have nVh191 : zNV h191 γ := fun j hj => (cp_ri ch191 (by decide)).trans (nV j hj)
      have w8h191 : rl_at h191 132 8 = γ 9 := (rl_self wh191).trans (by omega)
      have w0h191 : rl_at h191 132 0 = gPull T (γ 9) (γ 7) := (rl_ne wh191 (.inr (by decide))).trans w0h186
      have w1h191 : rl_at h191 132 1 = gFirm f w.toInt + γ 8 := (rl_ne wh191 (.inr (by decide))).trans w1h186
      have w2h191 : rl_at h191 132 2 = γ 5 := (rl_ne wh191 (.inr (by decide))).trans w2h186
      have w3h191 : rl_at h191 132 3 = T 8 := (rl_ne wh191 (.inr (by decide))).trans w3h186
      have w4h191 : rl_at h191 132 4 = (if γ 6 = 1 then 1 else 0) := (rl_ne wh191 (.inr (by decide))).trans w4h186
      have w5h191 : rl_at h191 132 5 = (if γ 6 = 2 then 1 else 0) := (rl_ne wh191 (.inr (by decide))).trans w5h186
      have w6h191 : rl_at h191 132 6 = gDrop T (γ 1) (γ 2) (γ 3) (γ 4) := (rl_ne wh191 (.inr (by decide))).trans w6h186
      have w7h191 : rl_at h191 132 7 = w.toInt := (rl_ne wh191 (.inr (by decide))).trans w7h186
      refine ex_al oq_X12_layNames_145 rfl ?_
      refine ex_gf oq_X12_layNames_146 Th191 (k := 111) (d := 12) rfl rfl (fr_names Th191) ?_
      refine ex_bi oq_X12_layNames_149 (m := 9) (by decide) (fun x192 hx192 => ?_)
      refine ex_il oq_X12_layNames_151 rfl ?_
      refine ex_i2l oq_X12_layNames_152 (fun x193 hx193 => ?_)
      refine ex_lw oq_X12_layNames_153 Th191 (k := 132) (d := 71) (j := 9) rfl rfl (by omega) (by omega) (fun h194 Th194 wh194 => ?_)
      have ch194 : cp_F 132 h h194 := cp_w wh194 ch191
      have gTh194 : zGT h194 gn T := fun j hj => (cp_ri ch194 (by decide)).trans (gT j hj)
      have nVh194 : zNV h194 γ := fun j hj => (cp_ri ch194 (by decide)).trans (nV j hj)
      have w9h194 : rl_at h194 132 9 = fl.toInt := (rl_self wh194).trans (by omega)
      have w0h194 : rl_at h194 132 0 = gPull T (γ 9) (γ 7) := (rl_ne wh194 (.inr (by decide))).trans w0h191
      have w1h194 : rl_at h194 132 1 = gFirm f w.toInt + γ 8 := (rl_ne wh194 (.inr (by decide))).trans w1h191
      have w2h194 : rl_at h194 132 2 = γ 5 := (rl_ne wh194 (.inr (by decide))).trans w2h191
      have w3h194 : rl_at h194 132 3 = T 8 := (rl_ne wh194 (.inr (by decide))).trans w3h191
      have w4h194 : rl_at h194 132 4 = (if γ 6 = 1 then 1 else 0) := (rl_ne wh194 (.inr (by decide))).trans w4h191
      have w5h194 : rl_at h194 132 5 = (if γ 6 = 2 then 1 else 0) := (rl_ne wh194 (.inr (by decide))).trans w5h191
      have w6h194 : rl_at h194 132 6 = gDrop T (γ 1) (γ 2) (γ 3) (γ 4) := (rl_ne wh194 (.inr (by decide))).trans w6h191
      have w7h194 : rl_at h194 132 7 = w.toInt := (rl_ne wh194 (.inr (by decide))).trans w7h191
      have w8h194 : rl_at h194 132 8 = γ 9 := (rl_ne wh194 (.inr (by decide))).trans w8h191
      refine ex_retv oq_X12_layNames_154 rfl (hQ h194 Th194 ch194 (fun j hj => ?_))
      have : j = 0 ∨ j = 1 ∨ j = 2 ∨ j = 3 ∨ j = 4 ∨ j = 5 ∨ j = 6 ∨ j = 7 ∨ j = 8 ∨ j = 9 := by omega
      rcases this with rfl | rfl | rfl | rfl | rfl | rfl | rfl | rfl | rfl | rfl
      · exact w0h194
      · exact w1h194
      · exact w2h194
      · exact w3h194
      · exact w4h194
      · exact w5h194
      · exact w6h194
      · exact w7h194
      · exact w8h194
      · exact w9h194
    · refine ex_lc oq_X12_layNames_102 (m := 1) (by decide) (fun x195 hx195 => ?_)
      refine ex_go oq_X12_layNames_103 (t := 107) rfl rfl ?_
      refine ex_lw oq_X12_layNames_107 Th172 (k := 132) (d := 71) (j := 5) rfl rfl (by omega) (by omega) (fun h196 Th196 wh196 => ?_)
      have ch196 : cp_F 132 h h196 := cp_w wh196 ch172
      have gTh196 : zGT h196 gn T := fun j hj => (cp_ri ch196 (by decide)).trans (gT j hj)
      have nVh196 : zNV h196 γ := fun j hj => (cp_ri ch196 (by decide)).trans (nV j hj)
      have w5h196 : rl_at h196 132 5 = (if γ 6 = 2 then 1 else 0) := (rl_self wh196).trans (by rw [if_pos (by omega)]; omega)
      have w0h196 : rl_at h196 132 0 = gPull T (γ 9) (γ 7) := (rl_ne wh196 (.inr (by decide))).trans w0h172
      have w1h196 : rl_at h196 132 1 = gFirm f w.toInt + γ 8 := (rl_ne wh196 (.inr (by decide))).trans w1h172
      have w2h196 : rl_at h196 132 2 = γ 5 := (rl_ne wh196 (.inr (by decide))).trans w2h172
      have w3h196 : rl_at h196 132 3 = T 8 := (rl_ne wh196 (.inr (by decide))).trans w3h172
      have w4h196 : rl_at h196 132 4 = (if γ 6 = 1 then 1 else 0) := (rl_ne wh196 (.inr (by decide))).trans w4h172
      refine ex_al oq_X12_layNames_108 rfl ?_
      refine ex_gf oq_X12_layNames_109 Th196 (k := 111) (d := 12) rfl rfl (fr_names Th196) ?_
      refine ex_bi oq_X12_layNames_112 (m := 6) (by decide) (fun x197 hx197 => ?_)
      refine ex_al oq_X12_layNames_114 rfl ?_
      refine ex_il oq_X12_layNames_115 rfl ?_
      refine ex_cv oq_X12_layNames_116 (by decide) Th196 (k := 111) (d := 12) (as := [cv_i g]) (stk := [cv_i x197, cv_r 132]) rfl rfl rfl rfl rfl rfl ⟨rfl, rfl⟩ (R := fun o => ∃ x : Int32, o = (some (cv_i x), h196) ∧ x.toInt = gDrop T (γ 1) (γ 2) (γ 3) (γ 4)) (rg_drop Th196 hg hg4 gTh196 nVh196 rT rG (fun x q => ⟨x, rfl, q⟩)) (fun o ho => ?_)
      obtain ⟨x198, rfl, hx198⟩ := ho
      show cw_X _ _ _ _ _ [cv_i x198, cv_i x197, cv_r 132] h196
      refine ex_i2l oq_X12_layNames_119 (fun x199 hx199 => ?_)
      refine ex_lw oq_X12_layNames_120 Th196 (k := 132) (d := 71) (j := 6) rfl rfl (by omega) (by omega) (fun h200 Th200 wh200 => ?_)
      have ch200 : cp_F 132 h h200 := cp_w wh200 ch196
      have gTh200 : zGT h200 gn T := fun j hj => (cp_ri ch200 (by decide)).trans (gT j hj)
      have nVh200 : zNV h200 γ := fun j hj => (cp_ri ch200 (by decide)).trans (nV j hj)
      have w6h200 : rl_at h200 132 6 = gDrop T (γ 1) (γ 2) (γ 3) (γ 4) := (rl_self wh200).trans (by omega)
      have w0h200 : rl_at h200 132 0 = gPull T (γ 9) (γ 7) := (rl_ne wh200 (.inr (by decide))).trans w0h196
      have w1h200 : rl_at h200 132 1 = gFirm f w.toInt + γ 8 := (rl_ne wh200 (.inr (by decide))).trans w1h196
      have w2h200 : rl_at h200 132 2 = γ 5 := (rl_ne wh200 (.inr (by decide))).trans w2h196
      have w3h200 : rl_at h200 132 3 = T 8 := (rl_ne wh200 (.inr (by decide))).trans w3h196
      have w4h200 : rl_at h200 132 4 = (if γ 6 = 1 then 1 else 0) := (rl_ne wh200 (.inr (by decide))).trans w4h196
      have w5h200 : rl_at h200 132 5 = (if γ 6 = 2 then 1 else 0) := (rl_ne wh200 (.inr (by decide))).trans w5h196
      refine ex_al oq_X12_layNames_121 rfl ?_
      refine ex_gf oq_X12_layNames_122 Th200 (k := 111) (d := 12) rfl rfl (fr_names Th200) ?_
      refine ex_bi oq_X12_layNames_125 (m := 7) (by decide) (fun x201 hx201 => ?_)
      refine ex_il oq_X12_layNames_127 rfl ?_
      refine ex_i2l oq_X12_layNames_128 (fun x202 hx202 => ?_)
      refine ex_lw oq_X12_layNames_129 Th200 (k := 132) (d := 71) (j := 7) rfl rfl (by omega) (by omega) (fun h203 Th203 wh203 => ?_)
      have ch203 : cp_F 132 h h203 := cp_w wh203 ch200
      have gTh203 : zGT h203 gn T := fun j hj => (cp_ri ch203 (by decide)).trans (gT j hj)
      have nVh203 : zNV h203 γ := fun j hj => (cp_ri ch203 (by decide)).trans (nV j hj)
      have w7h203 : rl_at h203 132 7 = w.toInt := (rl_self wh203).trans (by omega)
      have w0h203 : rl_at h203 132 0 = gPull T (γ 9) (γ 7) := (rl_ne wh203 (.inr (by decide))).trans w0h200
      have w1h203 : rl_at h203 132 1 = gFirm f w.toInt + γ 8 := (rl_ne wh203 (.inr (by decide))).trans w1h200
      have w2h203 : rl_at h203 132 2 = γ 5 := (rl_ne wh203 (.inr (by decide))).trans w2h200
      have w3h203 : rl_at h203 132 3 = T 8 := (rl_ne wh203 (.inr (by decide))).trans w3h200
      have w4h203 : rl_at h203 132 4 = (if γ 6 = 1 then 1 else 0) := (rl_ne wh203 (.inr (by decide))).trans w4h200
      have w5h203 : rl_at h203 132 5 = (if γ 6 = 2 then 1 else 0) := (rl_ne wh203 (.inr (by decide))).trans w5h200
      have w6h203 : rl_at h203 132 6 = gDrop T (γ 1) (γ 2) (γ 3) (γ 4) := (rl_ne wh203 (.inr (by decide))).trans w6h200
      refine ex_al oq_X12_layNames_130 rfl ?_
      refine ex_gf oq_X12_layNames_131 Th203 (k := 111) (d := 12) rfl rfl (fr_names Th203) ?_
      refine ex_bi oq_X12_layNames_134 (m := 8) (by decide) (fun x204 hx204 => ?_)
      refine ex_al oq_X12_layNames_136 rfl ?_
      refine ex_gf oq_X12_layNames_137 Th203 (k := 111) (d := 12) rfl rfl (fr_now Th203) ?_
      refine ex_bi oq_X12_layNames_140 (m := 8) (by decide) (fun x205 hx205 => ?_)
      refine ex_ia1 oq_X12_layNames_142 Th203 (k := 131) (d := 70) (j := 8) rfl rfl (by omega) (by omega) (fun x206 hx206 lx206 ux206 => ?_)
      have hx206 := (hx206.symm.trans (nVh203 8 (by decide)) : x206.toInt = γ 9)
      refine ex_i2l oq_X12_layNames_143 (fun x207 hx207 => ?_)
      refine ex_lw oq_X12_layNames_144 Th203 (k := 132) (d := 71) (j := 8) rfl rfl (by omega) (by omega) (fun h208 Th208 wh208 => ?_)
      have ch208 : cp_F 132 h h208 := cp_w wh208 ch203
      have gTh208 : zGT h208 gn T := fun j hj => (cp_ri ch208 (by decide)).trans (gT j hj)
      have nVh208 : zNV h208 γ := fun j hj => (cp_ri ch208 (by decide)).trans (nV j hj)
      have w8h208 : rl_at h208 132 8 = γ 9 := (rl_self wh208).trans (by omega)
      have w0h208 : rl_at h208 132 0 = gPull T (γ 9) (γ 7) := (rl_ne wh208 (.inr (by decide))).trans w0h203
      have w1h208 : rl_at h208 132 1 = gFirm f w.toInt + γ 8 := (rl_ne wh208 (.inr (by decide))).trans w1h203
      have w2h208 : rl_at h208 132 2 = γ 5 := (rl_ne wh208 (.inr (by decide))).trans w2h203
      have w3h208 : rl_at h208 132 3 = T 8 := (rl_ne wh208 (.inr (by decide))).trans w3h203
      have w4h208 : rl_at h208 132 4 = (if γ 6 = 1 then 1 else 0) := (rl_ne wh208 (.inr (by decide))).trans w4h203
      have w5h208 : rl_at h208 132 5 = (if γ 6 = 2 then 1 else 0) := (rl_ne wh208 (.inr (by decide))).trans w5h203
      have w6h208 : rl_at h208 132 6 = gDrop T (γ 1) (γ 2) (γ 3) (γ 4) := (rl_ne wh208 (.inr (by decide))).trans w6h203
      have w7h208 : rl_at h208 132 7 = w.toInt := (rl_ne wh208 (.inr (by decide))).trans w7h203
      refine ex_al oq_X12_layNames_145 rfl ?_
      refine ex_gf oq_X12_layNames_146 Th208 (k := 111) (d := 12) rfl rfl (fr_names Th208) ?_
      refine ex_bi oq_X12_layNames_149 (m := 9) (by decide) (fun x209 hx209 => ?_)
      refine ex_il oq_X12_layNames_151 rfl ?_
      refine ex_i2l oq_X12_layNames_152 (fun x210 hx210 => ?_)
      refine ex_lw oq_X12_layNames_153 Th208 (k := 132) (d := 71) (j := 9) rfl rfl (by omega) (by omega) (fun h211 Th211 wh211 => ?_)
      have ch211 : cp_F 132 h h211 := cp_w wh211 ch208
      have gTh211 : zGT h211 gn T := fun j hj => (cp_ri ch211 (by decide)).trans (gT j hj)
      have nVh211 : zNV h211 γ := fun j hj => (cp_ri ch211 (by decide)).trans (nV j hj)
      have w9h211 : rl_at h211 132 9 = fl.toInt := (rl_self wh211).trans (by omega)
      have w0h211 : rl_at h211 132 0 = gPull T (γ 9) (γ 7) := (rl_ne wh211 (.inr (by decide))).trans w0h208
      have w1h211 : rl_at h211 132 1 = gFirm f w.toInt + γ 8 := (rl_ne wh211 (.inr (by decide))).trans w1h208
      have w2h211 : rl_at h211 132 2 = γ 5 := (rl_ne wh211 (.inr (by decide))).trans w2h208
      have w3h211 : rl_at h211 132 3 = T 8 := (rl_ne wh211 (.inr (by decide))).trans w3h208
      have w4h211 : rl_at h211 132 4 = (if γ 6 = 1 then 1 else 0) := (rl_ne wh211 (.inr (by decide))).trans w4h208
      have w5h211 : rl_at h211 132 5 = (if γ 6 = 2 then 1 else 0) := (rl_ne wh211 (.inr (by decide))).trans w5h208
      have w6h211 : rl_at h211 132 6 = gDrop T (γ 1) (γ 2) (γ 3) (γ 4) := (rl_ne wh211 (.inr (by decide))).trans w6h208
      have w7h211 : rl_at h211 132 7 = w.toInt := (rl_ne wh211 (.inr (by decide))).trans w7h208
      have w8h211 : rl_at h211 132 8 = γ 9 := (rl_ne wh211 (.inr (by decide))).trans w8h208
      refine ex_retv oq_X12_layNames_154 rfl (hQ h211 Th211 ch211 (fun j hj => ?_))
      have : j = 0 ∨ j = 1 ∨ j = 2 ∨ j = 3 ∨ j = 4 ∨ j = 5 ∨ j = 6 ∨ j = 7 ∨ j = 8 ∨ j = 9 := by omega
      rcases this with rfl | rfl | rfl | rfl | rfl | rfl | rfl | rfl | rfl | rfl
      · exact w0h211
      · exact w1h211
      · exact w2h211
      · exact w3h211
      · exact w4h211
      · exact w5h211
      · exact w6h211
      · exact w7h211
      · exact w8h211
      · exact w9h211
end GN
