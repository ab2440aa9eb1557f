/-! ===== methods walked by hand: binding ===== -/
theorem ln_e {a b c d : Int} (h1 : a = b) (h2 : b = c + d) : a = c + d := h1.trans h2
theorem ln_p {a b c d : Int} (h1 : a = b + 1) (h2 : b = c + d) : a = c + (d + 1) := by omega
theorem ln_m {a b c d : Int} (h1 : a = b - 1) (h2 : b = c + d) : a = c + (d - 1) := by omega
theorem ln_b {a b : Int} (h : a = b) : a = b + 0 := by omega
theorem ln_s {a b x y o : Int} (h1 : a = x) (h2 : x = y - o) (h3 : o = 1) (h4 : b = y) : a = b + (-1) := by omega
theorem ln_N {a : Int} {N : Nat} (h : a.toNat ≤ N + 1) (h1 : 1 ≤ a) : (a + (-1)).toNat ≤ N := by omega
theorem ln_3 {v : Int} (h : 3 ≤ v ∧ v ≤ 14) : ¬ v = 0 := by omega
theorem ln_2 {v : Int} (h : v = 2) : ¬ v = 0 ∧ ¬ 3 ≤ v := by omega
section SPO
variable {G : Int} {X : cv_X} {Q : cv_O → Prop}
def mk_wd : Nat := 0x6000000000000000000000000000000000000000000000000000000000000000000000000000000000000000000000000000000000000000000000000000000000000000000000000000000000000000000000000000000000000000000000000000000000000000000000000000000000000000000000000000000000
theorem oq_X12_bind_0 : cw_ho 194 0 (.aload_n 0) 1 0 0 0 := rfl
theorem oq_X12_bind_1 : cw_ho 194 1 (.getfield 318) 3 12 37 0 := rfl
theorem oq_X12_bind_4 : cw_ho 194 4 (.ifCond .le 72) 3 0 0 0 := rfl
theorem oq_X12_bind_7 : cw_ho 194 7 (.aload_n 0) 1 0 0 0 := rfl
theorem oq_X12_bind_8 : cw_ho 194 8 (.getfield 63) 3 12 35 4 := rfl
theorem oq_X12_bind_11 : cw_ho 194 11 (.aload_n 0) 1 0 0 0 := rfl
theorem oq_X12_bind_12 : cw_ho 194 12 (.getfield 318) 3 12 37 0 := rfl
theorem oq_X12_bind_15 : cw_ho 194 15 (.iconst 1) 1 0 0 0 := rfl
theorem oq_X12_bind_16 : cw_ho 194 16 (.isub) 1 0 0 0 := rfl
theorem oq_X12_bind_17 : cw_ho 194 17 (.iaload) 1 0 0 0 := rfl
theorem oq_X12_bind_18 : cw_ho 194 18 (.invokestatic 321) 3 191 1 0 := rfl
theorem oq_X12_bind_21 : cw_ho 194 21 (.iload_n 1) 1 0 0 0 := rfl
theorem oq_X12_bind_22 : cw_ho 194 22 (.if_icmp .lt 54) 3 0 0 0 := rfl
theorem oq_X12_bind_25 : cw_ho 194 25 (.aload_n 0) 1 0 0 0 := rfl
theorem oq_X12_bind_26 : cw_ho 194 26 (.dup) 1 0 0 0 := rfl
theorem oq_X12_bind_27 : cw_ho 194 27 (.getfield 318) 3 12 37 0 := rfl
theorem oq_X12_bind_30 : cw_ho 194 30 (.iconst 1) 1 0 0 0 := rfl
theorem oq_X12_bind_31 : cw_ho 194 31 (.isub) 1 0 0 0 := rfl
theorem oq_X12_bind_32 : cw_ho 194 32 (.putfield 318) 3 12 37 0 := rfl
theorem oq_X12_bind_35 : cw_ho 194 35 (.aload_n 0) 1 0 0 0 := rfl
theorem oq_X12_bind_36 : cw_ho 194 36 (.getfield 63) 3 12 35 4 := rfl
theorem oq_X12_bind_39 : cw_ho 194 39 (.aload_n 0) 1 0 0 0 := rfl
theorem oq_X12_bind_40 : cw_ho 194 40 (.getfield 318) 3 12 37 0 := rfl
theorem oq_X12_bind_43 : cw_ho 194 43 (.iaload) 1 0 0 0 := rfl
theorem oq_X12_bind_44 : cw_ho 194 44 (.istore_n 2) 1 0 0 0 := rfl
theorem oq_X12_bind_45 : cw_ho 194 45 (.iload_n 2) 1 0 0 0 := rfl
theorem oq_X12_bind_46 : cw_ho 194 46 (.iconst 2) 1 0 0 0 := rfl
theorem oq_X12_bind_47 : cw_ho 194 47 (.if_icmp .ne 7) 3 0 0 0 := rfl
theorem oq_X12_bind_50 : cw_ho 194 50 (.iconst (-1)) 1 0 0 0 := rfl
theorem oq_X12_bind_51 : cw_ho 194 51 (.goto 7) 3 0 0 0 := rfl
theorem oq_X12_bind_54 : cw_ho 194 54 (.aload_n 0) 1 0 0 0 := rfl
theorem oq_X12_bind_55 : cw_ho 194 55 (.invokevirtual 324) 3 193 0 12 := rfl
theorem oq_X12_bind_58 : cw_ho 194 58 (.istore_n 3) 1 0 0 0 := rfl
theorem oq_X12_bind_59 : cw_ho 194 59 (.aload_n 0) 1 0 0 0 := rfl
theorem oq_X12_bind_60 : cw_ho 194 60 (.invokevirtual 324) 3 193 0 12 := rfl
theorem oq_X12_bind_63 : cw_ho 194 63 (.istore 4) 2 0 0 0 := rfl
theorem oq_X12_bind_65 : cw_ho 194 65 (.aload_n 0) 1 0 0 0 := rfl
theorem oq_X12_bind_66 : cw_ho 194 66 (.iload_n 2) 1 0 0 0 := rfl
theorem oq_X12_bind_67 : cw_ho 194 67 (.iload 4) 2 0 0 0 := rfl
theorem oq_X12_bind_69 : cw_ho 194 69 (.iload_n 3) 1 0 0 0 := rfl
theorem oq_X12_bind_70 : cw_ho 194 70 (.invokevirtual 327) 3 192 3 12 := rfl
theorem oq_X12_bind_73 : cw_ho 194 73 (.goto (-73)) 3 0 0 0 := rfl
theorem oq_X12_bind_76 : cw_ho 194 76 (.return_) 1 0 0 0 := rfl
set_option maxHeartbeats 6000000 in
theorem bn_0 {h0 : cv_H} (le : Int32) (le1 : 1 ≤ le.toInt) (hfin : ∀ h, cw_T G h → cw_PP G h → cw_Fr cw_Ds cw_sh mk_bi h0 h → sn_I h → ri_at h 111 41 = 0 → (ri_at h 111 37 ≤ 0 ∨ (le.toInt = 1 → 1 ≤ ri_at h 111 37 → ri_at h 128 ((ri_at h 111 37).toNat - 1) = 0)) → Q (none, h)) : ∀ (N : Nat) (h : cv_H), cw_T G h → cw_PP G h → cw_Fr cw_Ds cw_sh mk_bi h0 h → sn_I h → ri_at h 111 41 = 0 → ∀ L : cv_L, cv_get L 0 = some (cv_r 111) → cv_get L 1 = some (cv_i le) → (ri_at h 111 37).toNat ≤ N → cw_X X 194 Q 0 L [] h := by
  intro N
  induction N with
  | zero =>
    intro h Th hPh Fh hI hwn L q0 q1 hN
    refine ex_al oq_X12_bind_0 q0 ?_
    obtain ⟨x1, ax1, rx1, lx1, ux1⟩ := fi_waits Th
    refine ex_gf oq_X12_bind_1 Th (k := 111) (d := 12) rfl rfl ax1 ?_
    refine ex_if0 oq_X12_bind_4 (t := 76) rfl rfl (fun (c2 : x1.toInt ≤ 0) => ?_) (fun (c2 : ¬ (x1.toInt ≤ 0)) => ?_)
    · exact ex_retv oq_X12_bind_76 rfl (hfin h Th hPh Fh hI hwn (by first | (left; omega) | (right; intro q1 q2; omega)))
    · exfalso; omega
  | succ N ih =>
    intro h Th hPh Fh hI hwn L q0 q1 hN
    have hnn := sn_nn (ri_at h 128) (ri_at h 111 37).toNat
    have hI' := hI
    obtain ⟨i0, i1, i2, i3, i4, i5, i6⟩ := hI'
    obtain ⟨_, _, rc1, lc1, uc1⟩ := fi_counted Th
    obtain ⟨_, _, rb1, lb1, ub1⟩ := fi_brackets Th
    refine ex_al oq_X12_bind_0 q0 ?_
    obtain ⟨x1, ax1, rx1, lx1, ux1⟩ := fi_waits Th
    refine ex_gf oq_X12_bind_1 Th (k := 111) (d := 12) rfl rfl ax1 ?_
    refine ex_if0 oq_X12_bind_4 (t := 76) rfl rfl (fun (c2 : x1.toInt ≤ 0) => ?_) (fun (c2 : ¬ (x1.toInt ≤ 0)) => ?_)
    · exact ex_retv oq_X12_bind_76 rfl (hfin h Th hPh Fh hI hwn (by first | (left; omega) | (right; intro q1 q2; omega)))
    · obtain ⟨v, hv, hvv, eb, eu, ep⟩ := sn_top hI (by omega)
      have hsb := sn_nn (ri_at h 128) ((ri_at h 111 37).toNat - 1)
      have c1W : 1 ≤ ri_at h 111 37 := by omega
      have htop := hv
      refine ex_al oq_X12_bind_7 q0 ?_
      refine ex_gf oq_X12_bind_8 Th (k := 111) (d := 12) rfl rfl (fr_wait Th) ?_
      refine ex_al oq_X12_bind_11 q0 ?_
      obtain ⟨x3, ax3, rx3, lx3, ux3⟩ := fi_waits Th
      refine ex_gf oq_X12_bind_12 Th (k := 111) (d := 12) rfl rfl ax3 ?_
      refine ex_ic oq_X12_bind_15 (m := 1) (by decide) (fun x4 hx4 => ?_)
      refine ex_sub oq_X12_bind_16 (by omega) (fun x5 hx5 => ?_)
      refine ex_ia1 oq_X12_bind_17 Th (k := 128) (d := 67) (j := ((ri_at h 111 37).toNat - 1)) rfl rfl (by omega) (by omega) (fun x6 hx6 lx6 ux6 => ?_)
      refine ex_cs oq_X12_bind_18 (by decide) (as := [cv_i x6]) (stk := []) rfl rfl rfl ⟨rfl, rfl⟩ (R := fun o => ∃ x : Int32, o = (some (cv_i x), h) ∧ (0 ≤ x.toInt ∧ x.toInt ≤ 6 ∧ (x.toInt = 0 → x6.toInt ≠ 2 ∧ x6.toInt < 3) ∧ (x6.toInt = 2 → x.toInt = 3) ∧ (3 ≤ x6.toInt → 1 ≤ x.toInt) ∧ (x6.toInt = 0 → x.toInt = 0))) (sp_rank Th x6  (fun x hx => ⟨x, rfl, hx⟩)) (fun ox7 hox7 => ?_)
      obtain ⟨x7, rfl, hx7⟩ := hox7
      show cw_X _ _ _ _ _ [cv_i x7] h
      refine ex_il oq_X12_bind_21 q1 ?_
      refine ex_if oq_X12_bind_22 (t := 76) rfl rfl (fun (c8 : x7.toInt < le.toInt) => ?_) (fun (c8 : ¬ (x7.toInt < le.toInt)) => ?_)
      · exact ex_retv oq_X12_bind_76 rfl (hfin h Th hPh Fh hI hwn (by first | (left; omega) | (right; intro q1 q2; omega)))
      · refine ex_al oq_X12_bind_25 q0 ?_
        refine ex_dup oq_X12_bind_26 rfl ?_
        obtain ⟨x9, ax9, rx9, lx9, ux9⟩ := fi_waits Th
        refine ex_gf oq_X12_bind_27 Th (k := 111) (d := 12) rfl rfl ax9 ?_
        refine ex_ic oq_X12_bind_30 (m := 1) (by decide) (fun x10 hx10 => ?_)
        refine ex_sub oq_X12_bind_31 (by omega) (fun x11 hx11 => ?_)
        refine ex_pfi oq_X12_bind_32 Th (k := 111) (d := 12) rfl rfl rfl (by omega) (by omega) (fun h12 Th12 wh12 => ?_)
        have Fh12 : cw_Fr cw_Ds cw_sh mk_bi h0 h12 := cw_Fr_tr Fh (cw_Fr_wrf wh12 (k := 111) (d := 12) rfl rfl (by decide +kernel))
        have GF : cw_Fr cw_Ds cw_sh mk_wd h h12 := cw_Fr_wrf wh12 (k := 111) (d := 12) rfl rfl (by decide +kernel)
        have eh12_37 : ri_at h12 111 37 = x11.toInt := ri_self wh12
        have eh12_38 : ri_at h12 111 38 = ri_at h 111 38 := ri_ne wh12 (by decide)
        have eh12_19 : ri_at h12 111 19 = ri_at h 111 19 := ri_ne wh12 (by decide)
        have eh12_40 : ri_at h12 111 40 = ri_at h 111 40 := ri_ne wh12 (by decide)
        have eh12_39 : ri_at h12 111 39 = ri_at h 111 39 := ri_ne wh12 (by decide)
        have eh12_41 : ri_at h12 111 41 = ri_at h 111 41 := ri_ne wh12 (by decide)
        have eh12_top : ri_at h12 128 ((ri_at h 111 37).toNat - 1) = ri_at h 128 ((ri_at h 111 37).toNat - 1) := ri_ne wh12 (.inl (by decide))
        refine ex_al oq_X12_bind_35 q0 ?_
        refine ex_gf oq_X12_bind_36 Th12 (k := 111) (d := 12) rfl rfl (fr_wait Th12) ?_
        refine ex_al oq_X12_bind_39 q0 ?_
        obtain ⟨x13, ax13, rx13, lx13, ux13⟩ := fi_waits Th12
        refine ex_gf oq_X12_bind_40 Th12 (k := 111) (d := 12) rfl rfl ax13 ?_
        refine ex_ia1 oq_X12_bind_43 Th12 (k := 128) (d := 67) (j := ((ri_at h 111 37).toNat - 1)) rfl rfl (by omega) (by omega) (fun x14 hx14 lx14 ux14 => ?_)
        refine ex_isA oq_X12_bind_44 (fun L15 gL15_2 kL15 => ?_)
        have gL15_0 : cv_get L15 0 = some (cv_r 111) := kL15 0 _ (by decide) (fun q => absurd q (by decide)) q0
        have gL15_1 : cv_get L15 1 = some (cv_i le) := kL15 1 _ (by decide) (fun _ => rfl) q1
        refine ex_il oq_X12_bind_45 gL15_2 ?_
        refine ex_ic oq_X12_bind_46 (m := 2) (by decide) (fun x16 hx16 => ?_)
        refine ex_if oq_X12_bind_47 (t := 54) rfl rfl (fun (c17 : ¬ x14.toInt = x16.toInt) => ?_) (fun (c17 : ¬ (¬ x14.toInt = x16.toInt)) => ?_)
        · have hv3 : 3 ≤ v ∧ v ≤ 14 := by omega
          rw [if_pos hv3.1] at eb
          rw [if_neg (by omega)] at eu
          clear hvv i1 hnn hx7
          refine ex_al oq_X12_bind_54 gL15_0 ?_
          refine ex_cv oq_X12_bind_55 (by decide) Th12 (k := 111) (d := 12) (as := []) (stk := []) rfl rfl rfl rfl rfl rfl ⟨rfl, rfl⟩ (R := fun o => ∃ (x : Int32) (hb : cv_H), o = (some (cv_i x), hb) ∧ cw_T G hb ∧ cw_Fr cw_Ds cw_sh mk_dr h12 hb ∧ ri_at hb 111 38 = ri_at h12 111 38 - 1 ∧ 0 ≤ x.toInt ∧ x.toInt ≤ 63) (sp_dropHeld Th12 (by omega) (fun x h a0 a1 a2 a3 a4 => ⟨x, h, rfl, a0, a1, a2, a3, a4⟩)) (fun o ho => ?_)
          obtain ⟨x19, h18, rfl, Th18, Ch18, eh18_38, lx19, ux19⟩ := ho
          show cw_X _ _ _ _ _ [cv_i x19] h18
          have Fh18 : cw_Fr cw_Ds cw_sh mk_bi h0 h18 := cw_Fr_tr Fh12 (cw_Fr_mono (by decide +kernel) Ch18)
          replace GF : cw_Fr cw_Ds cw_sh mk_wd h h18 := cw_Fr_tr GF (cw_Fr_mono (by decide +kernel) Ch18)
          have eh18_37 : ri_at h18 111 37 = ri_at h12 111 37 := ri_frf Ch18 (d := 12) rfl rfl (by decide +kernel)
          have eh18_19 : ri_at h18 111 19 = ri_at h12 111 19 := ri_frf Ch18 (d := 12) rfl rfl (by decide +kernel)
          have eh18_40 : ri_at h18 111 40 = ri_at h12 111 40 := ri_frf Ch18 (d := 12) rfl rfl (by decide +kernel)
          have eh18_39 : ri_at h18 111 39 = ri_at h12 111 39 := ri_frf Ch18 (d := 12) rfl rfl (by decide +kernel)
          have eh18_41 : ri_at h18 111 41 = ri_at h12 111 41 := ri_frf Ch18 (d := 12) rfl rfl (by decide +kernel)
          have wth18 : ∀ i, ri_at h18 128 i = ri_at h12 128 i := fun i => ri_frr Ch18 (d := 67) rfl rfl (by decide +kernel)
          refine ex_isA oq_X12_bind_58 (fun L20 gL20_3 kL20 => ?_)
          have gL20_2 : cv_get L20 2 = some (cv_i x14) := kL20 2 _ (by decide) (fun _ => rfl) gL15_2
          have gL20_0 : cv_get L20 0 = some (cv_r 111) := kL20 0 _ (by decide) (fun q => absurd q (by decide)) gL15_0
          have gL20_1 : cv_get L20 1 = some (cv_i le) := kL20 1 _ (by decide) (fun q => absurd q (by decide)) gL15_1
          refine ex_al oq_X12_bind_59 gL20_0 ?_
          refine ex_cv oq_X12_bind_60 (by decide) Th18 (k := 111) (d := 12) (as := []) (stk := []) rfl rfl rfl rfl rfl rfl ⟨rfl, rfl⟩ (R := fun o => ∃ (x : Int32) (hb : cv_H), o = (some (cv_i x), hb) ∧ cw_T G hb ∧ cw_Fr cw_Ds cw_sh mk_dr h18 hb ∧ ri_at hb 111 38 = ri_at h18 111 38 - 1 ∧ 0 ≤ x.toInt ∧ x.toInt ≤ 63) (sp_dropHeld Th18 (by omega) (fun x h a0 a1 a2 a3 a4 => ⟨x, h, rfl, a0, a1, a2, a3, a4⟩)) (fun o ho => ?_)
          obtain ⟨x22, h21, rfl, Th21, Ch21, eh21_38, lx22, ux22⟩ := ho
          show cw_X _ _ _ _ _ [cv_i x22] h21
          have Fh21 : cw_Fr cw_Ds cw_sh mk_bi h0 h21 := cw_Fr_tr Fh18 (cw_Fr_mono (by decide +kernel) Ch21)
          replace GF : cw_Fr cw_Ds cw_sh mk_wd h h21 := cw_Fr_tr GF (cw_Fr_mono (by decide +kernel) Ch21)
          have eh21_37 : ri_at h21 111 37 = ri_at h18 111 37 := ri_frf Ch21 (d := 12) rfl rfl (by decide +kernel)
          have eh21_19 : ri_at h21 111 19 = ri_at h18 111 19 := ri_frf Ch21 (d := 12) rfl rfl (by decide +kernel)
          have eh21_40 : ri_at h21 111 40 = ri_at h18 111 40 := ri_frf Ch21 (d := 12) rfl rfl (by decide +kernel)
          have eh21_39 : ri_at h21 111 39 = ri_at h18 111 39 := ri_frf Ch21 (d := 12) rfl rfl (by decide +kernel)
          have eh21_41 : ri_at h21 111 41 = ri_at h18 111 41 := ri_frf Ch21 (d := 12) rfl rfl (by decide +kernel)
          have wth21 : ∀ i, ri_at h21 128 i = ri_at h18 128 i := fun i => ri_frr Ch21 (d := 67) rfl rfl (by decide +kernel)
          refine ex_iswA oq_X12_bind_63 (fun L23 gL23_4 kL23 => ?_)
          have gL23_3 : cv_get L23 3 = some (cv_i x19) := kL23 3 _ (by decide) (fun _ => rfl) gL20_3
          have gL23_2 : cv_get L23 2 = some (cv_i x14) := kL23 2 _ (by decide) (fun q => absurd q (by decide)) gL20_2
          have gL23_0 : cv_get L23 0 = some (cv_r 111) := kL23 0 _ (by decide) (fun q => absurd q (by decide)) gL20_0
          have gL23_1 : cv_get L23 1 = some (cv_i le) := kL23 1 _ (by decide) (fun q => absurd q (by decide)) gL20_1
          refine ex_al oq_X12_bind_65 gL23_0 ?_
          refine ex_il oq_X12_bind_66 gL23_2 ?_
          refine ex_ilw oq_X12_bind_67 gL23_4 ?_
          refine ex_il oq_X12_bind_69 gL23_3 ?_
          have PG : cw_PP G h21 := pp_fr0 (m := mk_wd) (by decide +kernel) hPh GF
          refine ex_cv oq_X12_bind_70 (by decide) Th21 (k := 111) (d := 12) (as := [cv_i x14, cv_i x22, cv_i x19]) (stk := []) rfl rfl rfl rfl rfl rfl ⟨rfl, rfl⟩ (R := fun o => ∃ hb : cv_H, o = (none, hb) ∧ cw_T G hb ∧ cw_Fr cw_Ds cw_sh mk_gr h21 hb ∧ cw_PP G hb ∧ ri_at hb 111 38 = ri_at h21 111 38 + 1 ∧ ri_at hb 111 19 = ri_at h21 111 19 + 1) (sp_grown Th21 PG x14 x22 x19 (by omega) (by omega) ⟨by intro q; omega, by intro q1 q2; omega, by intro q1 q2 q3; omega⟩ (fun h a0 a1 a2 a3 a4 => ⟨h, rfl, a0, a1, a2, a3, a4⟩)) (fun o ho => ?_)
          obtain ⟨h24, rfl, Th24, Ch24, Ph24, eh24_38, eh24_19⟩ := ho
          show cw_X _ _ _ _ _ [] h24
          have Fh24 : cw_Fr cw_Ds cw_sh mk_bi h0 h24 := cw_Fr_tr Fh21 (cw_Fr_mono (by decide +kernel) Ch24)
          have eh24_37 : ri_at h24 111 37 = ri_at h21 111 37 := ri_frf Ch24 (d := 12) rfl rfl (by decide +kernel)
          have eh24_40 : ri_at h24 111 40 = ri_at h21 111 40 := ri_frf Ch24 (d := 12) rfl rfl (by decide +kernel)
          have eh24_39 : ri_at h24 111 39 = ri_at h21 111 39 := ri_frf Ch24 (d := 12) rfl rfl (by decide +kernel)
          have eh24_41 : ri_at h24 111 41 = ri_at h21 111 41 := ri_frf Ch24 (d := 12) rfl rfl (by decide +kernel)
          have wth24 : ∀ i, ri_at h24 128 i = ri_at h21 128 i := fun i => ri_frr Ch24 (d := 67) rfl rfl (by decide +kernel)
          refine ex_go oq_X12_bind_73 (t := 0) rfl rfl ?_
          have hwt : ∀ i, ri_at h24 128 i = ri_at h 128 i := fun i => (wth24 i).trans ((wth21 i).trans ((wth18 i).trans (ri_ne wh12 (.inl (by decide)))))
          have k37 : ri_at h24 111 37 = ri_at h 111 37 + (-1) := (ln_e eh24_37 (ln_e eh21_37 (ln_e eh18_37 (ln_s eh12_37 hx11 hx10 rx9))))
          have k38 : ri_at h24 111 38 = ri_at h 111 38 + (-1) := (ln_p eh24_38 (ln_m eh21_38 (ln_m eh18_38 (ln_b eh12_38))))
          have k19 : ri_at h24 111 19 = ri_at h 111 19 + 1 := (ln_p eh24_19 (ln_e eh21_19 (ln_e eh18_19 (ln_b eh12_19))))
          have k40 : ri_at h24 111 40 = ri_at h 111 40 + 0 := (ln_e eh24_40 (ln_e eh21_40 (ln_e eh18_40 (ln_b eh12_40))))
          have k39 : ri_at h24 111 39 = ri_at h 111 39 + 0 := (ln_e eh24_39 (ln_e eh21_39 (ln_e eh18_39 (ln_b eh12_39))))
          have k41 : ri_at h24 111 41 = ri_at h 111 41 + 0 := (ln_e eh24_41 (ln_e eh21_41 (ln_e eh18_41 (ln_b eh12_41))))
          have hI2 : sn_I h24 := by
            refine sn_pop hI c1W (by rw [k37]; rfl) (fun i _ => hwt i) ?_ (by rw [k41, Int.add_zero]) (by rw [k40, Int.add_zero]) ?_ ?_
            · rw [k38, htop, if_pos hv3.1]; rfl
            · rw [k39, htop, if_neg (ln_3 hv3)]; rw [Int.add_zero, Int.sub_zero]
            · rw [k19, htop, if_neg (ln_3 hv3)]
          exact ih h24 Th24 Ph24 Fh24 hI2 (by rw [k41, hwn]; rfl) L23 gL23_0 gL23_1 (by rw [k37]; exact ln_N hN c1W)
        · have hv2 : v = 2 := by omega
          rw [if_neg (by omega)] at eb
          rw [if_pos hv2] at eu
          clear hvv i1 hnn hx7
          refine ex_ic oq_X12_bind_50 (m := (-1)) (by decide) (fun x25 hx25 => ?_)
          refine ex_go oq_X12_bind_51 (t := 58) rfl rfl ?_
          refine ex_isA oq_X12_bind_58 (fun L26 gL26_3 kL26 => ?_)
          have gL26_2 : cv_get L26 2 = some (cv_i x14) := kL26 2 _ (by decide) (fun _ => rfl) gL15_2
          have gL26_0 : cv_get L26 0 = some (cv_r 111) := kL26 0 _ (by decide) (fun q => absurd q (by decide)) gL15_0
          have gL26_1 : cv_get L26 1 = some (cv_i le) := kL26 1 _ (by decide) (fun q => absurd q (by decide)) gL15_1
          refine ex_al oq_X12_bind_59 gL26_0 ?_
          refine ex_cv oq_X12_bind_60 (by decide) Th12 (k := 111) (d := 12) (as := []) (stk := []) rfl rfl rfl rfl rfl rfl ⟨rfl, rfl⟩ (R := fun o => ∃ (x : Int32) (hb : cv_H), o = (some (cv_i x), hb) ∧ cw_T G hb ∧ cw_Fr cw_Ds cw_sh mk_dr h12 hb ∧ ri_at hb 111 38 = ri_at h12 111 38 - 1 ∧ 0 ≤ x.toInt ∧ x.toInt ≤ 63) (sp_dropHeld Th12 (by omega) (fun x h a0 a1 a2 a3 a4 => ⟨x, h, rfl, a0, a1, a2, a3, a4⟩)) (fun o ho => ?_)
          obtain ⟨x28, h27, rfl, Th27, Ch27, eh27_38, lx28, ux28⟩ := ho
          show cw_X _ _ _ _ _ [cv_i x28] h27
          have Fh27 : cw_Fr cw_Ds cw_sh mk_bi h0 h27 := cw_Fr_tr Fh12 (cw_Fr_mono (by decide +kernel) Ch27)
          replace GF : cw_Fr cw_Ds cw_sh mk_wd h h27 := cw_Fr_tr GF (cw_Fr_mono (by decide +kernel) Ch27)
          have eh27_37 : ri_at h27 111 37 = ri_at h12 111 37 := ri_frf Ch27 (d := 12) rfl rfl (by decide +kernel)
          have eh27_19 : ri_at h27 111 19 = ri_at h12 111 19 := ri_frf Ch27 (d := 12) rfl rfl (by decide +kernel)
          have eh27_40 : ri_at h27 111 40 = ri_at h12 111 40 := ri_frf Ch27 (d := 12) rfl rfl (by decide +kernel)
          have eh27_39 : ri_at h27 111 39 = ri_at h12 111 39 := ri_frf Ch27 (d := 12) rfl rfl (by decide +kernel)
          have eh27_41 : ri_at h27 111 41 = ri_at h12 111 41 := ri_frf Ch27 (d := 12) rfl rfl (by decide +kernel)
          have wth27 : ∀ i, ri_at h27 128 i = ri_at h12 128 i := fun i => ri_frr Ch27 (d := 67) rfl rfl (by decide +kernel)
          refine ex_iswA oq_X12_bind_63 (fun L29 gL29_4 kL29 => ?_)
          have gL29_3 : cv_get L29 3 = some (cv_i x25) := kL29 3 _ (by decide) (fun _ => rfl) gL26_3
          have gL29_2 : cv_get L29 2 = some (cv_i x14) := kL29 2 _ (by decide) (fun q => absurd q (by decide)) gL26_2
          have gL29_0 : cv_get L29 0 = some (cv_r 111) := kL29 0 _ (by decide) (fun q => absurd q (by decide)) gL26_0
          have gL29_1 : cv_get L29 1 = some (cv_i le) := kL29 1 _ (by decide) (fun q => absurd q (by decide)) gL26_1
          refine ex_al oq_X12_bind_65 gL29_0 ?_
          refine ex_il oq_X12_bind_66 gL29_2 ?_
          refine ex_ilw oq_X12_bind_67 gL29_4 ?_
          refine ex_il oq_X12_bind_69 gL29_3 ?_
          have PG : cw_PP G h27 := pp_fr0 (m := mk_wd) (by decide +kernel) hPh GF
          refine ex_cv oq_X12_bind_70 (by decide) Th27 (k := 111) (d := 12) (as := [cv_i x14, cv_i x28, cv_i x25]) (stk := []) rfl rfl rfl rfl rfl rfl ⟨rfl, rfl⟩ (R := fun o => ∃ hb : cv_H, o = (none, hb) ∧ cw_T G hb ∧ cw_Fr cw_Ds cw_sh mk_gr h27 hb ∧ cw_PP G hb ∧ ri_at hb 111 38 = ri_at h27 111 38 + 1 ∧ ri_at hb 111 19 = ri_at h27 111 19 + 1) (sp_grown Th27 PG x14 x28 x25 (by omega) (by omega) ⟨by intro q; omega, by intro q1 q2; omega, by intro q1 q2 q3; omega⟩ (fun h a0 a1 a2 a3 a4 => ⟨h, rfl, a0, a1, a2, a3, a4⟩)) (fun o ho => ?_)
          obtain ⟨h30, rfl, Th30, Ch30, Ph30, eh30_38, eh30_19⟩ := ho
          show cw_X _ _ _ _ _ [] h30
          have Fh30 : cw_Fr cw_Ds cw_sh mk_bi h0 h30 := cw_Fr_tr Fh27 (cw_Fr_mono (by decide +kernel) Ch30)
          have eh30_37 : ri_at h30 111 37 = ri_at h27 111 37 := ri_frf Ch30 (d := 12) rfl rfl (by decide +kernel)
          have eh30_40 : ri_at h30 111 40 = ri_at h27 111 40 := ri_frf Ch30 (d := 12) rfl rfl (by decide +kernel)
          have eh30_39 : ri_at h30 111 39 = ri_at h27 111 39 := ri_frf Ch30 (d := 12) rfl rfl (by decide +kernel)
          have eh30_41 : ri_at h30 111 41 = ri_at h27 111 41 := ri_frf Ch30 (d := 12) rfl rfl (by decide +kernel)
          have wth30 : ∀ i, ri_at h30 128 i = ri_at h27 128 i := fun i => ri_frr Ch30 (d := 67) rfl rfl (by decide +kernel)
          refine ex_go oq_X12_bind_73 (t := 0) rfl rfl ?_
          have hwt : ∀ i, ri_at h30 128 i = ri_at h 128 i := fun i => (wth30 i).trans ((wth27 i).trans (ri_ne wh12 (.inl (by decide))))
          have k37 : ri_at h30 111 37 = ri_at h 111 37 + (-1) := (ln_e eh30_37 (ln_e eh27_37 (ln_s eh12_37 hx11 hx10 rx9)))
          have k38 : ri_at h30 111 38 = ri_at h 111 38 + 0 := (ln_p eh30_38 (ln_m eh27_38 (ln_b eh12_38)))
          have k19 : ri_at h30 111 19 = ri_at h 111 19 + 1 := (ln_p eh30_19 (ln_e eh27_19 (ln_b eh12_19)))
          have k40 : ri_at h30 111 40 = ri_at h 111 40 + 0 := (ln_e eh30_40 (ln_e eh27_40 (ln_b eh12_40)))
          have k39 : ri_at h30 111 39 = ri_at h 111 39 + 0 := (ln_e eh30_39 (ln_e eh27_39 (ln_b eh12_39)))
          have k41 : ri_at h30 111 41 = ri_at h 111 41 + 0 := (ln_e eh30_41 (ln_e eh27_41 (ln_b eh12_41)))
          have hI2 : sn_I h30 := by
            refine sn_pop hI c1W (by rw [k37]; rfl) (fun i _ => hwt i) ?_ (by rw [k41, Int.add_zero]) (by rw [k40, Int.add_zero]) ?_ ?_
            · rw [k38, htop, if_neg (ln_2 hv2).2]; rw [Int.add_zero, Int.sub_zero]
            · rw [k39, htop, if_neg (ln_2 hv2).1]; rw [Int.add_zero, Int.sub_zero]
            · rw [k19, htop, if_neg (ln_2 hv2).1]
          exact ih h30 Th30 Ph30 Fh30 hI2 (by rw [k41, hwn]; rfl) L29 gL29_0 gL29_1 (by rw [k37]; exact ln_N hN c1W)
theorem sp_bind {h : cv_H} (hT : cw_T G h) (hP : cw_PP G h) (hI : sn_I h) (hw : ri_at h 111 41 = 0) (le : Int32) (le1 : 1 ≤ le.toInt) (hfin : ∀ h', cw_T G h' → cw_PP G h' → cw_Fr cw_Ds cw_sh mk_bi h h' → sn_I h' → ri_at h' 111 41 = 0 → (ri_at h' 111 37 ≤ 0 ∨ (le.toInt = 1 → 1 ≤ ri_at h' 111 37 → ri_at h' 128 ((ri_at h' 111 37).toNat - 1) = 0)) → Q (none, h')) : cw_X X 194 Q 0 (cv_ent 0 [cv_r 111, cv_i le]) [] h :=
  bn_0 le le1 hfin _ h hT hP cw_Fr_refl hI hw _ rfl rfl (Nat.le_refl _)
end SPO
