/-! ===== methods walked by hand: a law's sum ===== -/
theorem pq_tr {G c kd s : Int} {h h' : cv_H} (h1 : cw_PQ G c kd s h) (h2 : cw_PQ G (ri_at h 111 7) (ri_at h 111 8) s h') : cw_PQ G c kd s h' := by
  obtain ⟨-, a1, a2, a3⟩ := h1
  obtain ⟨b0, b1, b2, b3⟩ := h2
  refine ⟨b0, by omega, fun q => ?_, b3⟩
  have := b2 (by omega)
  have := a2 (by omega)
  omega
theorem pq_self {G c kd s : Int} {h : cv_H} (h1 : cw_PQ G c kd s h) : cw_PQ G (ri_at h 111 7) (ri_at h 111 8) s h := ⟨h1.1, Int.le_refl _, fun _ => .inl rfl, h1.2.2.2⟩
section SPX
variable {G c kd s : Int} {X : cv_X} {Q : cv_O → Prop}
theorem oq_X12_sumRead_0 : cw_ho 199 0 (.aload_n 0) 1 0 0 0 := rfl
theorem oq_X12_sumRead_1 : cw_ho 199 1 (.iconst 0) 1 0 0 0 := rfl
theorem oq_X12_sumRead_2 : cw_ho 199 2 (.putfield 318) 3 12 37 0 := rfl
theorem oq_X12_sumRead_5 : cw_ho 199 5 (.aload_n 0) 1 0 0 0 := rfl
theorem oq_X12_sumRead_6 : cw_ho 199 6 (.iconst 0) 1 0 0 0 := rfl
theorem oq_X12_sumRead_7 : cw_ho 199 7 (.putfield 315) 3 12 38 0 := rfl
theorem oq_X12_sumRead_10 : cw_ho 199 10 (.aload_n 0) 1 0 0 0 := rfl
theorem oq_X12_sumRead_11 : cw_ho 199 11 (.iconst 0) 1 0 0 0 := rfl
theorem oq_X12_sumRead_12 : cw_ho 199 12 (.putfield 331) 3 12 39 0 := rfl
theorem oq_X12_sumRead_15 : cw_ho 199 15 (.aload_n 0) 1 0 0 0 := rfl
theorem oq_X12_sumRead_16 : cw_ho 199 16 (.iconst 1) 1 0 0 0 := rfl
theorem oq_X12_sumRead_17 : cw_ho 199 17 (.putfield 343) 3 12 41 2 := rfl
theorem oq_X12_sumRead_20 : cw_ho 199 20 (.aload_n 0) 1 0 0 0 := rfl
theorem oq_X12_sumRead_21 : cw_ho 199 21 (.iconst 1) 1 0 0 0 := rfl
theorem oq_X12_sumRead_22 : cw_ho 199 22 (.putfield 337) 3 12 42 2 := rfl
theorem oq_X12_sumRead_25 : cw_ho 199 25 (.aload_n 0) 1 0 0 0 := rfl
theorem oq_X12_sumRead_26 : cw_ho 199 26 (.bipush 59) 2 0 0 0 := rfl
theorem oq_X12_sumRead_28 : cw_ho 199 28 (.invokevirtual 190) 3 167 1 12 := rfl
theorem oq_X12_sumRead_31 : cw_ho 199 31 (.ifCond .eq 17) 3 0 0 0 := rfl
theorem oq_X12_sumRead_34 : cw_ho 199 34 (.aload_n 0) 1 0 0 0 := rfl
theorem oq_X12_sumRead_35 : cw_ho 199 35 (.getfield 343) 3 12 41 2 := rfl
theorem oq_X12_sumRead_38 : cw_ho 199 38 (.ifCond .ne 10) 3 0 0 0 := rfl
theorem oq_X12_sumRead_41 : cw_ho 199 41 (.aload_n 0) 1 0 0 0 := rfl
theorem oq_X12_sumRead_42 : cw_ho 199 42 (.getfield 331) 3 12 39 0 := rfl
theorem oq_X12_sumRead_45 : cw_ho 199 45 (.ifCond .le 29) 3 0 0 0 := rfl
theorem oq_X12_sumRead_48 : cw_ho 199 48 (.aload_n 0) 1 0 0 0 := rfl
theorem oq_X12_sumRead_49 : cw_ho 199 49 (.getfield 343) 3 12 41 2 := rfl
theorem oq_X12_sumRead_52 : cw_ho 199 52 (.ifCond .eq 13) 3 0 0 0 := rfl
theorem oq_X12_sumRead_55 : cw_ho 199 55 (.aload_n 0) 1 0 0 0 := rfl
theorem oq_X12_sumRead_56 : cw_ho 199 56 (.invokevirtual 349) 3 197 0 12 := rfl
theorem oq_X12_sumRead_59 : cw_ho 199 59 (.ifCond .eq 13) 3 0 0 0 := rfl
theorem oq_X12_sumRead_62 : cw_ho 199 62 (.goto (-37)) 3 0 0 0 := rfl
theorem oq_X12_sumRead_65 : cw_ho 199 65 (.aload_n 0) 1 0 0 0 := rfl
theorem oq_X12_sumRead_66 : cw_ho 199 66 (.invokevirtual 352) 3 198 0 12 := rfl
theorem oq_X12_sumRead_69 : cw_ho 199 69 (.ifCond .ne (-44)) 3 0 0 0 := rfl
theorem oq_X12_sumRead_72 : cw_ho 199 72 (.iconst 0) 1 0 0 0 := rfl
theorem oq_X12_sumRead_73 : cw_ho 199 73 (.ireturn) 1 0 0 0 := rfl
theorem oq_X12_sumRead_74 : cw_ho 199 74 (.aload_n 0) 1 0 0 0 := rfl
theorem oq_X12_sumRead_75 : cw_ho 199 75 (.iconst 1) 1 0 0 0 := rfl
theorem oq_X12_sumRead_76 : cw_ho 199 76 (.invokevirtual 346) 3 194 1 12 := rfl
theorem oq_X12_sumRead_79 : cw_ho 199 79 (.iconst 1) 1 0 0 0 := rfl
theorem oq_X12_sumRead_80 : cw_ho 199 80 (.ireturn) 1 0 0 0 := rfl
theorem sr_25 {h0 : cv_H} (hX : cw_Xok X) (hQ : ∀ (x : Int32) h', cw_T G h' → cw_PQ G c kd s h' → cw_Fr cw_Ds cw_sh mk_lf h0 h' → (x.toInt = 0 ∨ x.toInt = 1 ∧ ri_at h' 111 19 = ri_at h' 111 40 ∧ 1 ≤ ri_at h' 111 19) → Q (some (cv_i x), h')) : ∀ (N : Nat) (h : cv_H), cw_T G h → cw_PQ G c kd s h → cw_Fr cw_Ds cw_sh mk_lf h0 h → sn_I h → ∀ L : cv_L, cv_get L 0 = some (cv_r 111) → (ri_at h 111 8 = 0 ∨ (s - ri_at h 111 7).toNat + 1 ≤ N) → cw_X X 199 Q 25 L [] h := by
  intro N
  induction N with
  | zero =>
    intro h Th Ph Fh hI L q0 hN
    have hle0 := Ph.1.2.1.1
    have hst0 := Ph.2.2.2
    obtain ⟨_, _, rw1, lw1, uw1⟩ := fi_wants Th
    refine ex_al oq_X12_sumRead_25 q0 ?_
    refine ex_bi oq_X12_sumRead_26 (m := 59) (by decide) (fun x1 hx1 => ?_)
    refine ex_cv oq_X12_sumRead_28 (by decide) Th (k := 111) (d := 12) (as := [cv_i x1]) (stk := []) rfl rfl rfl rfl rfl rfl ⟨rfl, rfl⟩ (R := fun o => ∃ x : Int32, o = (some (cv_i x), h) ∧ (x.toInt = 1 ∧ (ri_at h 111 8 = 4 ∧ ri_at h 111 9 = x1.toInt) ∨ x.toInt = 0 ∧ ¬ (ri_at h 111 8 = 4 ∧ ri_at h 111 9 = x1.toInt))) (sp_isSign Th x1  (fun x hx => ⟨x, rfl, hx⟩)) (fun ox2 hox2 => ?_)
    obtain ⟨x2, rfl, hx2⟩ := hox2
    show cw_X _ _ _ _ _ [cv_i x2] h
    refine ex_if0 oq_X12_sumRead_31 (t := 48) rfl rfl (fun (c3 : x2.toInt = 0) => ?_) (fun (c3 : ¬ (x2.toInt = 0)) => ?_)
    · refine ex_al oq_X12_sumRead_48 q0 ?_
      obtain ⟨x4, ax4, rx4, lx4, ux4⟩ := fi_wants Th
      refine ex_gf oq_X12_sumRead_49 Th (k := 111) (d := 12) rfl rfl ax4 ?_
      refine ex_if0 oq_X12_sumRead_52 (t := 65) rfl rfl (fun (c5 : x4.toInt = 0) => ?_) (fun (c5 : ¬ (x4.toInt = 0)) => ?_)
      · refine ex_al oq_X12_sumRead_65 q0 ?_
        refine ex_cv oq_X12_sumRead_66 (by decide) Th (k := 111) (d := 12) (as := []) (stk := []) rfl rfl rfl rfl rfl rfl ⟨rfl, rfl⟩ (R := fun o => ∃ (x : Int32) (hb : cv_H), o = (some (cv_i x), hb) ∧ cw_T G hb ∧ cw_PQ G (ri_at h 111 7) (ri_at h 111 8) s hb ∧ cw_Fr cw_Ds cw_sh mk_lf h hb ∧ (x.toInt = 0 ∨ x.toInt = 1 ∧ sn_I hb ∧ ri_at h 111 8 ≠ 0 ∧ (ri_at hb 111 8 = 0 ∨ ri_at h 111 7 < ri_at hb 111 7))) (sp_signs (h0 := h) (cw_Xok_no2 hX) (fun x h a0 a1 a2 a3 => ⟨x, h, rfl, a0, a1, a2, a3⟩) h Th (pq_self Ph) cw_Fr_refl hI (by omega) rfl) (fun o ho => ?_)
        obtain ⟨x7, h6, rfl, Th6, PSh6, Ch6, dx7⟩ := ho
        show cw_X _ _ _ _ _ [cv_i x7] h6
        have Fh6 : cw_Fr cw_Ds cw_sh mk_lf h0 h6 := cw_Fr_tr Fh Ch6
        have Ph6 : cw_PQ G c kd s h6 := pq_tr Ph PSh6
        have vx7 : x7.toInt = 0 ∨ x7.toInt = 1 := dx7.elim .inl (fun q => .inr q.1)
        refine ex_if0 oq_X12_sumRead_69 (t := 25) rfl rfl (fun (c8 : ¬ x7.toInt = 0) => ?_) (fun (c8 : ¬ (¬ x7.toInt = 0)) => ?_)
        · obtain ⟨g1, g2, g3, g4⟩ : x7.toInt = 1 ∧ sn_I h6 ∧ ri_at h 111 8 ≠ 0 ∧ (ri_at h6 111 8 = 0 ∨ ri_at h 111 7 < ri_at h6 111 7) := dx7.resolve_left (by omega)
          have hle := Ph6.1.2.1.1
          have hst := Ph6.2.2.2
          exfalso; omega -- h6 Th6 Ph6 Fh6 g2 L q0 (by omega)
        · refine ex_ic oq_X12_sumRead_72 (m := 0) (by decide) (fun x9 hx9 => ?_)
          exact ex_retb oq_X12_sumRead_73 rfl (by omega) (by omega) (hQ x9 h6 Th6 Ph6 Fh6 (.inl (by omega)))
      · refine ex_al oq_X12_sumRead_55 q0 ?_
        refine ex_cv oq_X12_sumRead_56 (by decide) Th (k := 111) (d := 12) (as := []) (stk := []) rfl rfl rfl rfl rfl rfl ⟨rfl, rfl⟩ (R := fun o => ∃ (x : Int32) (hb : cv_H), o = (some (cv_i x), hb) ∧ cw_T G hb ∧ cw_PQ G (ri_at h 111 7) (ri_at h 111 8) s hb ∧ cw_Fr cw_Ds cw_sh mk_lf h hb ∧ (x.toInt = 0 ∨ x.toInt = 1 ∧ sn_I hb ∧ ri_at h 111 8 ≠ 0 ∧ (ri_at hb 111 8 = 0 ∨ ri_at h 111 7 < ri_at hb 111 7))) (sp_leafRead (cw_Xok_no2 hX) Th (pq_self Ph) hI (by omega) (fun x h a0 a1 a2 a3 => ⟨x, h, rfl, a0, a1, a2, a3⟩)) (fun o ho => ?_)
        obtain ⟨x11, h10, rfl, Th10, PSh10, Ch10, dx11⟩ := ho
        show cw_X _ _ _ _ _ [cv_i x11] h10
        have Fh10 : cw_Fr cw_Ds cw_sh mk_lf h0 h10 := cw_Fr_tr Fh Ch10
        have Ph10 : cw_PQ G c kd s h10 := pq_tr Ph PSh10
        have vx11 : x11.toInt = 0 ∨ x11.toInt = 1 := dx11.elim .inl (fun q => .inr q.1)
        refine ex_if0 oq_X12_sumRead_59 (t := 72) rfl rfl (fun (c12 : x11.toInt = 0) => ?_) (fun (c12 : ¬ (x11.toInt = 0)) => ?_)
        · refine ex_ic oq_X12_sumRead_72 (m := 0) (by decide) (fun x13 hx13 => ?_)
          exact ex_retb oq_X12_sumRead_73 rfl (by omega) (by omega) (hQ x13 h10 Th10 Ph10 Fh10 (.inl (by omega)))
        · refine ex_go oq_X12_sumRead_62 (t := 25) rfl rfl ?_
          obtain ⟨g1, g2, g3, g4⟩ : x11.toInt = 1 ∧ sn_I h10 ∧ ri_at h 111 8 ≠ 0 ∧ (ri_at h10 111 8 = 0 ∨ ri_at h 111 7 < ri_at h10 111 7) := dx11.resolve_left (by omega)
          have hle := Ph10.1.2.1.1
          have hst := Ph10.2.2.2
          exfalso; omega -- h10 Th10 Ph10 Fh10 g2 L q0 (by omega)
    · refine ex_al oq_X12_sumRead_34 q0 ?_
      obtain ⟨x14, ax14, rx14, lx14, ux14⟩ := fi_wants Th
      refine ex_gf oq_X12_sumRead_35 Th (k := 111) (d := 12) rfl rfl ax14 ?_
      refine ex_if0 oq_X12_sumRead_38 (t := 48) rfl rfl (fun (c15 : ¬ x14.toInt = 0) => ?_) (fun (c15 : ¬ (¬ x14.toInt = 0)) => ?_)
      · refine ex_al oq_X12_sumRead_48 q0 ?_
        obtain ⟨x16, ax16, rx16, lx16, ux16⟩ := fi_wants Th
        refine ex_gf oq_X12_sumRead_49 Th (k := 111) (d := 12) rfl rfl ax16 ?_
        refine ex_if0 oq_X12_sumRead_52 (t := 65) rfl rfl (fun (c17 : x16.toInt = 0) => ?_) (fun (c17 : ¬ (x16.toInt = 0)) => ?_)
        · refine ex_al oq_X12_sumRead_65 q0 ?_
          refine ex_cv oq_X12_sumRead_66 (by decide) Th (k := 111) (d := 12) (as := []) (stk := []) rfl rfl rfl rfl rfl rfl ⟨rfl, rfl⟩ (R := fun o => ∃ (x : Int32) (hb : cv_H), o = (some (cv_i x), hb) ∧ cw_T G hb ∧ cw_PQ G (ri_at h 111 7) (ri_at h 111 8) s hb ∧ cw_Fr cw_Ds cw_sh mk_lf h hb ∧ (x.toInt = 0 ∨ x.toInt = 1 ∧ sn_I hb ∧ ri_at h 111 8 ≠ 0 ∧ (ri_at hb 111 8 = 0 ∨ ri_at h 111 7 < ri_at hb 111 7))) (sp_signs (h0 := h) (cw_Xok_no2 hX) (fun x h a0 a1 a2 a3 => ⟨x, h, rfl, a0, a1, a2, a3⟩) h Th (pq_self Ph) cw_Fr_refl hI (by omega) rfl) (fun o ho => ?_)
          obtain ⟨x19, h18, rfl, Th18, PSh18, Ch18, dx19⟩ := ho
          show cw_X _ _ _ _ _ [cv_i x19] h18
          have Fh18 : cw_Fr cw_Ds cw_sh mk_lf h0 h18 := cw_Fr_tr Fh Ch18
          have Ph18 : cw_PQ G c kd s h18 := pq_tr Ph PSh18
          have vx19 : x19.toInt = 0 ∨ x19.toInt = 1 := dx19.elim .inl (fun q => .inr q.1)
          refine ex_if0 oq_X12_sumRead_69 (t := 25) rfl rfl (fun (c20 : ¬ x19.toInt = 0) => ?_) (fun (c20 : ¬ (¬ x19.toInt = 0)) => ?_)
          · obtain ⟨g1, g2, g3, g4⟩ : x19.toInt = 1 ∧ sn_I h18 ∧ ri_at h 111 8 ≠ 0 ∧ (ri_at h18 111 8 = 0 ∨ ri_at h 111 7 < ri_at h18 111 7) := dx19.resolve_left (by omega)
            have hle := Ph18.1.2.1.1
            have hst := Ph18.2.2.2
            exfalso; omega -- h18 Th18 Ph18 Fh18 g2 L q0 (by omega)
          · refine ex_ic oq_X12_sumRead_72 (m := 0) (by decide) (fun x21 hx21 => ?_)
            exact ex_retb oq_X12_sumRead_73 rfl (by omega) (by omega) (hQ x21 h18 Th18 Ph18 Fh18 (.inl (by omega)))
        · refine ex_al oq_X12_sumRead_55 q0 ?_
          refine ex_cv oq_X12_sumRead_56 (by decide) Th (k := 111) (d := 12) (as := []) (stk := []) rfl rfl rfl rfl rfl rfl ⟨rfl, rfl⟩ (R := fun o => ∃ (x : Int32) (hb : cv_H), o = (some (cv_i x), hb) ∧ cw_T G hb ∧ cw_PQ G (ri_at h 111 7) (ri_at h 111 8) s hb ∧ cw_Fr cw_Ds cw_sh mk_lf h hb ∧ (x.toInt = 0 ∨ x.toInt = 1 ∧ sn_I hb ∧ ri_at h 111 8 ≠ 0 ∧ (ri_at hb 111 8 = 0 ∨ ri_at h 111 7 < ri_at hb 111 7))) (sp_leafRead (cw_Xok_no2 hX) Th (pq_self Ph) hI (by omega) (fun x h a0 a1 a2 a3 => ⟨x, h, rfl, a0, a1, a2, a3⟩)) (fun o ho => ?_)
          obtain ⟨x23, h22, rfl, Th22, PSh22, Ch22, dx23⟩ := ho
          show cw_X _ _ _ _ _ [cv_i x23] h22
          have Fh22 : cw_Fr cw_Ds cw_sh mk_lf h0 h22 := cw_Fr_tr Fh Ch22
          have Ph22 : cw_PQ G c kd s h22 := pq_tr Ph PSh22
          have vx23 : x23.toInt = 0 ∨ x23.toInt = 1 := dx23.elim .inl (fun q => .inr q.1)
          refine ex_if0 oq_X12_sumRead_59 (t := 72) rfl rfl (fun (c24 : x23.toInt = 0) => ?_) (fun (c24 : ¬ (x23.toInt = 0)) => ?_)
          · refine ex_ic oq_X12_sumRead_72 (m := 0) (by decide) (fun x25 hx25 => ?_)
            exact ex_retb oq_X12_sumRead_73 rfl (by omega) (by omega) (hQ x25 h22 Th22 Ph22 Fh22 (.inl (by omega)))
          · refine ex_go oq_X12_sumRead_62 (t := 25) rfl rfl ?_
            obtain ⟨g1, g2, g3, g4⟩ : x23.toInt = 1 ∧ sn_I h22 ∧ ri_at h 111 8 ≠ 0 ∧ (ri_at h22 111 8 = 0 ∨ ri_at h 111 7 < ri_at h22 111 7) := dx23.resolve_left (by omega)
            have hle := Ph22.1.2.1.1
            have hst := Ph22.2.2.2
            exfalso; omega -- h22 Th22 Ph22 Fh22 g2 L q0 (by omega)
      · refine ex_al oq_X12_sumRead_41 q0 ?_
        obtain ⟨x26, ax26, rx26, lx26, ux26⟩ := fi_brackets Th
        refine ex_gf oq_X12_sumRead_42 Th (k := 111) (d := 12) rfl rfl ax26 ?_
        refine ex_if0 oq_X12_sumRead_45 (t := 74) rfl rfl (fun (c27 : x26.toInt ≤ 0) => ?_) (fun (c27 : ¬ (x26.toInt ≤ 0)) => ?_)
        · refine ex_al oq_X12_sumRead_74 q0 ?_
          refine ex_ic oq_X12_sumRead_75 (m := 1) (by decide) (fun x28 hx28 => ?_)
          refine ex_cv oq_X12_sumRead_76 (by decide) Th (k := 111) (d := 12) (as := [cv_i x28]) (stk := []) rfl rfl rfl rfl rfl rfl ⟨rfl, rfl⟩ (R := fun o => ∃ hb : cv_H, o = (none, hb) ∧ cw_T G hb ∧ cw_PP G hb ∧ cw_Fr cw_Ds cw_sh mk_bi h hb ∧ sn_I hb ∧ ri_at hb 111 41 = 0 ∧ (ri_at hb 111 37 ≤ 0 ∨ (x28.toInt = 1 → 1 ≤ ri_at hb 111 37 → ri_at hb 128 ((ri_at hb 111 37).toNat - 1) = 0))) (sp_bind Th Ph.1 hI (by omega) x28 (by omega) (fun h a0 a1 a2 a3 a4 a5 => ⟨h, rfl, a0, a1, a2, a3, a4, a5⟩)) (fun o ho => ?_)
          obtain ⟨h29, rfl, Th29, PPh29, Ch29, snh29, eh29_41, tph29⟩ := ho
          show cw_X _ _ _ _ _ [] h29
          have Fh29 : cw_Fr cw_Ds cw_sh mk_lf h0 h29 := cw_Fr_tr Fh (cw_Fr_mono (by decide +kernel) Ch29)
          have eh29_40 : ri_at h29 111 40 = ri_at h 111 40 := ri_frf Ch29 (d := 12) rfl rfl (by decide +kernel)
          have eh29_39 : ri_at h29 111 39 = ri_at h 111 39 := ri_frf Ch29 (d := 12) rfl rfl (by decide +kernel)
          have Ph29 : cw_PQ G c kd s h29 := ⟨PPh29, by
            rw [ri_frf Ch29 (k := 111) (d := 12) (i := 6) rfl rfl (by decide +kernel), ri_frf Ch29 (k := 111) (d := 12) (i := 7) rfl rfl (by decide +kernel), ri_frf Ch29 (k := 111) (d := 12) (i := 8) rfl rfl (by decide +kernel)]
            exact Ph.2⟩
          refine ex_ic oq_X12_sumRead_79 (m := 1) (by decide) (fun x30 hx30 => ?_)
          obtain ⟨j0, -, j2, j3, j4, j5, j6⟩ := id snh29
          have snn := sn_nn (ri_at h29 128) (ri_at h29 111 37).toNat
          have w0 : ri_at h29 111 37 ≤ 0 := by
            rcases tph29 with q | q
            · exact q
            · by_cases q1 : 1 ≤ ri_at h29 111 37
              · exfalso
                obtain ⟨v, hv, hvv, eb, eu, ep⟩ := sn_top snh29 q1
                have q2 := q (by omega) q1
                rw [if_pos (by omega)] at ep
                have snn2 := sn_nn (ri_at h29 128) ((ri_at h29 111 37).toNat - 1)
                omega
              · omega
          have ez : (ri_at h29 111 37).toNat = 0 := by omega
          rw [ez] at j2 j3 j4 j5
          have s0 : sn_b (ri_at h29 128) 0 = 0 ∧ sn_u (ri_at h29 128) 0 = 0 := ⟨rfl, rfl⟩
          exact ex_retb oq_X12_sumRead_80 rfl (by omega) (by omega) (hQ x30 h29 Th29 Ph29 Fh29 (.inr ⟨by omega, by omega, by omega⟩))
        · refine ex_al oq_X12_sumRead_48 q0 ?_
          obtain ⟨x31, ax31, rx31, lx31, ux31⟩ := fi_wants Th
          refine ex_gf oq_X12_sumRead_49 Th (k := 111) (d := 12) rfl rfl ax31 ?_
          refine ex_if0 oq_X12_sumRead_52 (t := 65) rfl rfl (fun (c32 : x31.toInt = 0) => ?_) (fun (c32 : ¬ (x31.toInt = 0)) => ?_)
          · refine ex_al oq_X12_sumRead_65 q0 ?_
            refine ex_cv oq_X12_sumRead_66 (by decide) Th (k := 111) (d := 12) (as := []) (stk := []) rfl rfl rfl rfl rfl rfl ⟨rfl, rfl⟩ (R := fun o => ∃ (x : Int32) (hb : cv_H), o = (some (cv_i x), hb) ∧ cw_T G hb ∧ cw_PQ G (ri_at h 111 7) (ri_at h 111 8) s hb ∧ cw_Fr cw_Ds cw_sh mk_lf h hb ∧ (x.toInt = 0 ∨ x.toInt = 1 ∧ sn_I hb ∧ ri_at h 111 8 ≠ 0 ∧ (ri_at hb 111 8 = 0 ∨ ri_at h 111 7 < ri_at hb 111 7))) (sp_signs (h0 := h) (cw_Xok_no2 hX) (fun x h a0 a1 a2 a3 => ⟨x, h, rfl, a0, a1, a2, a3⟩) h Th (pq_self Ph) cw_Fr_refl hI (by omega) rfl) (fun o ho => ?_)
            obtain ⟨x34, h33, rfl, Th33, PSh33, Ch33, dx34⟩ := ho
            show cw_X _ _ _ _ _ [cv_i x34] h33
            have Fh33 : cw_Fr cw_Ds cw_sh mk_lf h0 h33 := cw_Fr_tr Fh Ch33
            have Ph33 : cw_PQ G c kd s h33 := pq_tr Ph PSh33
            have vx34 : x34.toInt = 0 ∨ x34.toInt = 1 := dx34.elim .inl (fun q => .inr q.1)
            refine ex_if0 oq_X12_sumRead_69 (t := 25) rfl rfl (fun (c35 : ¬ x34.toInt = 0) => ?_) (fun (c35 : ¬ (¬ x34.toInt = 0)) => ?_)
            · obtain ⟨g1, g2, g3, g4⟩ : x34.toInt = 1 ∧ sn_I h33 ∧ ri_at h 111 8 ≠ 0 ∧ (ri_at h33 111 8 = 0 ∨ ri_at h 111 7 < ri_at h33 111 7) := dx34.resolve_left (by omega)
              have hle := Ph33.1.2.1.1
              have hst := Ph33.2.2.2
              exfalso; omega -- h33 Th33 Ph33 Fh33 g2 L q0 (by omega)
            · refine ex_ic oq_X12_sumRead_72 (m := 0) (by decide) (fun x36 hx36 => ?_)
              exact ex_retb oq_X12_sumRead_73 rfl (by omega) (by omega) (hQ x36 h33 Th33 Ph33 Fh33 (.inl (by omega)))
          · refine ex_al oq_X12_sumRead_55 q0 ?_
            refine ex_cv oq_X12_sumRead_56 (by decide) Th (k := 111) (d := 12) (as := []) (stk := []) rfl rfl rfl rfl rfl rfl ⟨rfl, rfl⟩ (R := fun o => ∃ (x : Int32) (hb : cv_H), o = (some (cv_i x), hb) ∧ cw_T G hb ∧ cw_PQ G (ri_at h 111 7) (ri_at h 111 8) s hb ∧ cw_Fr cw_Ds cw_sh mk_lf h hb ∧ (x.toInt = 0 ∨ x.toInt = 1 ∧ sn_I hb ∧ ri_at h 111 8 ≠ 0 ∧ (ri_at hb 111 8 = 0 ∨ ri_at h 111 7 < ri_at hb 111 7))) (sp_leafRead (cw_Xok_no2 hX) Th (pq_self Ph) hI (by omega) (fun x h a0 a1 a2 a3 => ⟨x, h, rfl, a0, a1, a2, a3⟩)) (fun o ho => ?_)
            obtain ⟨x38, h37, rfl, Th37, PSh37, Ch37, dx38⟩ := ho
            show cw_X _ _ _ _ _ [cv_i x38] h37
            have Fh37 : cw_Fr cw_Ds cw_sh mk_lf h0 h37 := cw_Fr_tr Fh Ch37
            have Ph37 : cw_PQ G c kd s h37 := pq_tr Ph PSh37
            have vx38 : x38.toInt = 0 ∨ x38.toInt = 1 := dx38.elim .inl (fun q => .inr q.1)
            refine ex_if0 oq_X12_sumRead_59 (t := 72) rfl rfl (fun (c39 : x38.toInt = 0) => ?_) (fun (c39 : ¬ (x38.toInt = 0)) => ?_)
            · refine ex_ic oq_X12_sumRead_72 (m := 0) (by decide) (fun x40 hx40 => ?_)
              exact ex_retb oq_X12_sumRead_73 rfl (by omega) (by omega) (hQ x40 h37 Th37 Ph37 Fh37 (.inl (by omega)))
            · refine ex_go oq_X12_sumRead_62 (t := 25) rfl rfl ?_
              obtain ⟨g1, g2, g3, g4⟩ : x38.toInt = 1 ∧ sn_I h37 ∧ ri_at h 111 8 ≠ 0 ∧ (ri_at h37 111 8 = 0 ∨ ri_at h 111 7 < ri_at h37 111 7) := dx38.resolve_left (by omega)
              have hle := Ph37.1.2.1.1
              have hst := Ph37.2.2.2
              exfalso; omega -- h37 Th37 Ph37 Fh37 g2 L q0 (by omega)
  | succ N ih =>
    intro h Th Ph Fh hI L q0 hN
    have hle0 := Ph.1.2.1.1
    have hst0 := Ph.2.2.2
    obtain ⟨_, _, rw1, lw1, uw1⟩ := fi_wants Th
    refine ex_al oq_X12_sumRead_25 q0 ?_
    refine ex_bi oq_X12_sumRead_26 (m := 59) (by decide) (fun x1 hx1 => ?_)
    refine ex_cv oq_X12_sumRead_28 (by decide) Th (k := 111) (d := 12) (as := [cv_i x1]) (stk := []) rfl rfl rfl rfl rfl rfl ⟨rfl, rfl⟩ (R := fun o => ∃ x : Int32, o = (some (cv_i x), h) ∧ (x.toInt = 1 ∧ (ri_at h 111 8 = 4 ∧ ri_at h 111 9 = x1.toInt) ∨ x.toInt = 0 ∧ ¬ (ri_at h 111 8 = 4 ∧ ri_at h 111 9 = x1.toInt))) (sp_isSign Th x1  (fun x hx => ⟨x, rfl, hx⟩)) (fun ox2 hox2 => ?_)
    obtain ⟨x2, rfl, hx2⟩ := hox2
    show cw_X _ _ _ _ _ [cv_i x2] h
    refine ex_if0 oq_X12_sumRead_31 (t := 48) rfl rfl (fun (c3 : x2.toInt = 0) => ?_) (fun (c3 : ¬ (x2.toInt = 0)) => ?_)
    · refine ex_al oq_X12_sumRead_48 q0 ?_
      obtain ⟨x4, ax4, rx4, lx4, ux4⟩ := fi_wants Th
      refine ex_gf oq_X12_sumRead_49 Th (k := 111) (d := 12) rfl rfl ax4 ?_
      refine ex_if0 oq_X12_sumRead_52 (t := 65) rfl rfl (fun (c5 : x4.toInt = 0) => ?_) (fun (c5 : ¬ (x4.toInt = 0)) => ?_)
      · refine ex_al oq_X12_sumRead_65 q0 ?_
        refine ex_cv oq_X12_sumRead_66 (by decide) Th (k := 111) (d := 12) (as := []) (stk := []) rfl rfl rfl rfl rfl rfl ⟨rfl, rfl⟩ (R := fun o => ∃ (x : Int32) (hb : cv_H), o = (some (cv_i x), hb) ∧ cw_T G hb ∧ cw_PQ G (ri_at h 111 7) (ri_at h 111 8) s hb ∧ cw_Fr cw_Ds cw_sh mk_lf h hb ∧ (x.toInt = 0 ∨ x.toInt = 1 ∧ sn_I hb ∧ ri_at h 111 8 ≠ 0 ∧ (ri_at hb 111 8 = 0 ∨ ri_at h 111 7 < ri_at hb 111 7))) (sp_signs (h0 := h) (cw_Xok_no2 hX) (fun x h a0 a1 a2 a3 => ⟨x, h, rfl, a0, a1, a2, a3⟩) h Th (pq_self Ph) cw_Fr_refl hI (by omega) rfl) (fun o ho => ?_)
        obtain ⟨x7, h6, rfl, Th6, PSh6, Ch6, dx7⟩ := ho
        show cw_X _ _ _ _ _ [cv_i x7] h6
        have Fh6 : cw_Fr cw_Ds cw_sh mk_lf h0 h6 := cw_Fr_tr Fh Ch6
        have Ph6 : cw_PQ G c kd s h6 := pq_tr Ph PSh6
        have vx7 : x7.toInt = 0 ∨ x7.toInt = 1 := dx7.elim .inl (fun q => .inr q.1)
        refine ex_if0 oq_X12_sumRead_69 (t := 25) rfl rfl (fun (c8 : ¬ x7.toInt = 0) => ?_) (fun (c8 : ¬ (¬ x7.toInt = 0)) => ?_)
        · obtain ⟨g1, g2, g3, g4⟩ : x7.toInt = 1 ∧ sn_I h6 ∧ ri_at h 111 8 ≠ 0 ∧ (ri_at h6 111 8 = 0 ∨ ri_at h 111 7 < ri_at h6 111 7) := dx7.resolve_left (by omega)
          have hle := Ph6.1.2.1.1
          have hst := Ph6.2.2.2
          exact ih h6 Th6 Ph6 Fh6 g2 L q0 (by omega)
        · refine ex_ic oq_X12_sumRead_72 (m := 0) (by decide) (fun x9 hx9 => ?_)
          exact ex_retb oq_X12_sumRead_73 rfl (by omega) (by omega) (hQ x9 h6 Th6 Ph6 Fh6 (.inl (by omega)))
      · refine ex_al oq_X12_sumRead_55 q0 ?_
        refine ex_cv oq_X12_sumRead_56 (by decide) Th (k := 111) (d := 12) (as := []) (stk := []) rfl rfl rfl rfl rfl rfl ⟨rfl, rfl⟩ (R := fun o => ∃ (x : Int32) (hb : cv_H), o = (some (cv_i x), hb) ∧ cw_T G hb ∧ cw_PQ G (ri_at h 111 7) (ri_at h 111 8) s hb ∧ cw_Fr cw_Ds cw_sh mk_lf h hb ∧ (x.toInt = 0 ∨ x.toInt = 1 ∧ sn_I hb ∧ ri_at h 111 8 ≠ 0 ∧ (ri_at hb 111 8 = 0 ∨ ri_at h 111 7 < ri_at hb 111 7))) (sp_leafRead (cw_Xok_no2 hX) Th (pq_self Ph) hI (by omega) (fun x h a0 a1 a2 a3 => ⟨x, h, rfl, a0, a1, a2, a3⟩)) (fun o ho => ?_)
        obtain ⟨x11, h10, rfl, Th10, PSh10, Ch10, dx11⟩ := ho
        show cw_X _ _ _ _ _ [cv_i x11] h10
        have Fh10 : cw_Fr cw_Ds cw_sh mk_lf h0 h10 := cw_Fr_tr Fh Ch10
        have Ph10 : cw_PQ G c kd s h10 := pq_tr Ph PSh10
        have vx11 : x11.toInt = 0 ∨ x11.toInt = 1 := dx11.elim .inl (fun q => .inr q.1)
        refine ex_if0 oq_X12_sumRead_59 (t := 72) rfl rfl (fun (c12 : x11.toInt = 0) => ?_) (fun (c12 : ¬ (x11.toInt = 0)) => ?_)
        · refine ex_ic oq_X12_sumRead_72 (m := 0) (by decide) (fun x13 hx13 => ?_)
          exact ex_retb oq_X12_sumRead_73 rfl (by omega) (by omega) (hQ x13 h10 Th10 Ph10 Fh10 (.inl (by omega)))
        · refine ex_go oq_X12_sumRead_62 (t := 25) rfl rfl ?_
          obtain ⟨g1, g2, g3, g4⟩ : x11.toInt = 1 ∧ sn_I h10 ∧ ri_at h 111 8 ≠ 0 ∧ (ri_at h10 111 8 = 0 ∨ ri_at h 111 7 < ri_at h10 111 7) := dx11.resolve_left (by omega)
          have hle := Ph10.1.2.1.1
          have hst := Ph10.2.2.2
          exact ih h10 Th10 Ph10 Fh10 g2 L q0 (by omega)
    · refine ex_al oq_X12_sumRead_34 q0 ?_
      obtain ⟨x14, ax14, rx14, lx14, ux14⟩ := fi_wants Th
      refine ex_gf oq_X12_sumRead_35 Th (k := 111) (d := 12) rfl rfl ax14 ?_
      refine ex_if0 oq_X12_sumRead_38 (t := 48) rfl rfl (fun (c15 : ¬ x14.toInt = 0) => ?_) (fun (c15 : ¬ (¬ x14.toInt = 0)) => ?_)
      · refine ex_al oq_X12_sumRead_48 q0 ?_
        obtain ⟨x16, ax16, rx16, lx16, ux16⟩ := fi_wants Th
        refine ex_gf oq_X12_sumRead_49 Th (k := 111) (d := 12) rfl rfl ax16 ?_
        refine ex_if0 oq_X12_sumRead_52 (t := 65) rfl rfl (fun (c17 : x16.toInt = 0) => ?_) (fun (c17 : ¬ (x16.toInt = 0)) => ?_)
        · refine ex_al oq_X12_sumRead_65 q0 ?_
          refine ex_cv oq_X12_sumRead_66 (by decide) Th (k := 111) (d := 12) (as := []) (stk := []) rfl rfl rfl rfl rfl rfl ⟨rfl, rfl⟩ (R := fun o => ∃ (x : Int32) (hb : cv_H), o = (some (cv_i x), hb) ∧ cw_T G hb ∧ cw_PQ G (ri_at h 111 7) (ri_at h 111 8) s hb ∧ cw_Fr cw_Ds cw_sh mk_lf h hb ∧ (x.toInt = 0 ∨ x.toInt = 1 ∧ sn_I hb ∧ ri_at h 111 8 ≠ 0 ∧ (ri_at hb 111 8 = 0 ∨ ri_at h 111 7 < ri_at hb 111 7))) (sp_signs (h0 := h) (cw_Xok_no2 hX) (fun x h a0 a1 a2 a3 => ⟨x, h, rfl, a0, a1, a2, a3⟩) h Th (pq_self Ph) cw_Fr_refl hI (by omega) rfl) (fun o ho => ?_)
          obtain ⟨x19, h18, rfl, Th18, PSh18, Ch18, dx19⟩ := ho
          show cw_X _ _ _ _ _ [cv_i x19] h18
          have Fh18 : cw_Fr cw_Ds cw_sh mk_lf h0 h18 := cw_Fr_tr Fh Ch18
          have Ph18 : cw_PQ G c kd s h18 := pq_tr Ph PSh18
          have vx19 : x19.toInt = 0 ∨ x19.toInt = 1 := dx19.elim .inl (fun q => .inr q.1)
          refine ex_if0 oq_X12_sumRead_69 (t := 25) rfl rfl (fun (c20 : ¬ x19.toInt = 0) => ?_) (fun (c20 : ¬ (¬ x19.toInt = 0)) => ?_)
          · obtain ⟨g1, g2, g3, g4⟩ : x19.toInt = 1 ∧ sn_I h18 ∧ ri_at h 111 8 ≠ 0 ∧ (ri_at h18 111 8 = 0 ∨ ri_at h 111 7 < ri_at h18 111 7) := dx19.resolve_left (by omega)
            have hle := Ph18.1.2.1.1
            have hst := Ph18.2.2.2
            exact ih h18 Th18 Ph18 Fh18 g2 L q0 (by omega)
          · refine ex_ic oq_X12_sumRead_72 (m := 0) (by decide) (fun x21 hx21 => ?_)
            exact ex_retb oq_X12_sumRead_73 rfl (by omega) (by omega) (hQ x21 h18 Th18 Ph18 Fh18 (.inl (by omega)))
        · refine ex_al oq_X12_sumRead_55 q0 ?_
          refine ex_cv oq_X12_sumRead_56 (by decide) Th (k := 111) (d := 12) (as := []) (stk := []) rfl rfl rfl rfl rfl rfl ⟨rfl, rfl⟩ (R := fun o => ∃ (x : Int32) (hb : cv_H), o = (some (cv_i x), hb) ∧ cw_T G hb ∧ cw_PQ G (ri_at h 111 7) (ri_at h 111 8) s hb ∧ cw_Fr cw_Ds cw_sh mk_lf h hb ∧ (x.toInt = 0 ∨ x.toInt = 1 ∧ sn_I hb ∧ ri_at h 111 8 ≠ 0 ∧ (ri_at hb 111 8 = 0 ∨ ri_at h 111 7 < ri_at hb 111 7))) (sp_leafRead (cw_Xok_no2 hX) Th (pq_self Ph) hI (by omega) (fun x h a0 a1 a2 a3 => ⟨x, h, rfl, a0, a1, a2, a3⟩)) (fun o ho => ?_)
          obtain ⟨x23, h22, rfl, Th22, PSh22, Ch22, dx23⟩ := ho
          show cw_X _ _ _ _ _ [cv_i x23] h22
          have Fh22 : cw_Fr cw_Ds cw_sh mk_lf h0 h22 := cw_Fr_tr Fh Ch22
          have Ph22 : cw_PQ G c kd s h22 := pq_tr Ph PSh22
          have vx23 : x23.toInt = 0 ∨ x23.toInt = 1 := dx23.elim .inl (fun q => .inr q.1)
          refine ex_if0 oq_X12_sumRead_59 (t := 72) rfl rfl (fun (c24 : x23.toInt = 0) => ?_) (fun (c24 : ¬ (x23.toInt = 0)) => ?_)
          · refine ex_ic oq_X12_sumRead_72 (m := 0) (by decide) (fun x25 hx25 => ?_)
            exact ex_retb oq_X12_sumRead_73 rfl (by omega) (by omega) (hQ x25 h22 Th22 Ph22 Fh22 (.inl (by omega)))
          · refine ex_go oq_X12_sumRead_62 (t := 25) rfl rfl ?_
            obtain ⟨g1, g2, g3, g4⟩ : x23.toInt = 1 ∧ sn_I h22 ∧ ri_at h 111 8 ≠ 0 ∧ (ri_at h22 111 8 = 0 ∨ ri_at h 111 7 < ri_at h22 111 7) := dx23.resolve_left (by omega)
            have hle := Ph22.1.2.1.1
            have hst := Ph22.2.2.2
            exact ih h22 Th22 Ph22 Fh22 g2 L q0 (by omega)
      · refine ex_al oq_X12_sumRead_41 q0 ?_
        obtain ⟨x26, ax26, rx26, lx26, ux26⟩ := fi_brackets Th
        refine ex_gf oq_X12_sumRead_42 Th (k := 111) (d := 12) rfl rfl ax26 ?_
        refine ex_if0 oq_X12_sumRead_45 (t := 74) rfl rfl (fun (c27 : x26.toInt ≤ 0) => ?_) (fun (c27 : ¬ (x26.toInt ≤ 0)) => ?_)
        · refine ex_al oq_X12_sumRead_74 q0 ?_
          refine ex_ic oq_X12_sumRead_75 (m := 1) (by decide) (fun x28 hx28 => ?_)
          refine ex_cv oq_X12_sumRead_76 (by decide) Th (k := 111) (d := 12) (as := [cv_i x28]) (stk := []) rfl rfl rfl rfl rfl rfl ⟨rfl, rfl⟩ (R := fun o => ∃ hb : cv_H, o = (none, hb) ∧ cw_T G hb ∧ cw_PP G hb ∧ cw_Fr cw_Ds cw_sh mk_bi h hb ∧ sn_I hb ∧ ri_at hb 111 41 = 0 ∧ (ri_at hb 111 37 ≤ 0 ∨ (x28.toInt = 1 → 1 ≤ ri_at hb 111 37 → ri_at hb 128 ((ri_at hb 111 37).toNat - 1) = 0))) (sp_bind Th Ph.1 hI (by omega) x28 (by omega) (fun h a0 a1 a2 a3 a4 a5 => ⟨h, rfl, a0, a1, a2, a3, a4, a5⟩)) (fun o ho => ?_)
          obtain ⟨h29, rfl, Th29, PPh29, Ch29, snh29, eh29_41, tph29⟩ := ho
          show cw_X _ _ _ _ _ [] h29
          have Fh29 : cw_Fr cw_Ds cw_sh mk_lf h0 h29 := cw_Fr_tr Fh (cw_Fr_mono (by decide +kernel) Ch29)
          have eh29_40 : ri_at h29 111 40 = ri_at h 111 40 := ri_frf Ch29 (d := 12) rfl rfl (by decide +kernel)
          have eh29_39 : ri_at h29 111 39 = ri_at h 111 39 := ri_frf Ch29 (d := 12) rfl rfl (by decide +kernel)
          have Ph29 : cw_PQ G c kd s h29 := ⟨PPh29, by
            rw [ri_frf Ch29 (k := 111) (d := 12) (i := 6) rfl rfl (by decide +kernel), ri_frf Ch29 (k := 111) (d := 12) (i := 7) rfl rfl (by decide +kernel), ri_frf Ch29 (k := 111) (d := 12) (i := 8) rfl rfl (by decide +kernel)]
            exact Ph.2⟩
          refine ex_ic oq_X12_sumRead_79 (m := 1) (by decide) (fun x30 hx30 => ?_)
          obtain ⟨j0, -, j2, j3, j4, j5, j6⟩ := id snh29
          have snn := sn_nn (ri_at h29 128) (ri_at h29 111 37).toNat
          have w0 : ri_at h29 111 37 ≤ 0 := by
            rcases tph29 with q | q
            · exact q
            · by_cases q1 : 1 ≤ ri_at h29 111 37
              · exfalso
                obtain ⟨v, hv, hvv, eb, eu, ep⟩ := sn_top snh29 q1
                have q2 := q (by omega) q1
                rw [if_pos (by omega)] at ep
                have snn2 := sn_nn (ri_at h29 128) ((ri_at h29 111 37).toNat - 1)
                omega
              · omega
          have ez : (ri_at h29 111 37).toNat = 0 := by omega
          rw [ez] at j2 j3 j4 j5
          have s0 : sn_b (ri_at h29 128) 0 = 0 ∧ sn_u (ri_at h29 128) 0 = 0 := ⟨rfl, rfl⟩
          exact ex_retb oq_X12_sumRead_80 rfl (by omega) (by omega) (hQ x30 h29 Th29 Ph29 Fh29 (.inr ⟨by omega, by omega, by omega⟩))
        · refine ex_al oq_X12_sumRead_48 q0 ?_
          obtain ⟨x31, ax31, rx31, lx31, ux31⟩ := fi_wants Th
          refine ex_gf oq_X12_sumRead_49 Th (k := 111) (d := 12) rfl rfl ax31 ?_
          refine ex_if0 oq_X12_sumRead_52 (t := 65) rfl rfl (fun (c32 : x31.toInt = 0) => ?_) (fun (c32 : ¬ (x31.toInt = 0)) => ?_)
          · refine ex_al oq_X12_sumRead_65 q0 ?_
            refine ex_cv oq_X12_sumRead_66 (by decide) Th (k := 111) (d := 12) (as := []) (stk := []) rfl rfl rfl rfl rfl rfl ⟨rfl, rfl⟩ (R := fun o => ∃ (x : Int32) (hb : cv_H), o = (some (cv_i x), hb) ∧ cw_T G hb ∧ cw_PQ G (ri_at h 111 7) (ri_at h 111 8) s hb ∧ cw_Fr cw_Ds cw_sh mk_lf h hb ∧ (x.toInt = 0 ∨ x.toInt = 1 ∧ sn_I hb ∧ ri_at h 111 8 ≠ 0 ∧ (ri_at hb 111 8 = 0 ∨ ri_at h 111 7 < ri_at hb 111 7))) (sp_signs (h0 := h) (cw_Xok_no2 hX) (fun x h a0 a1 a2 a3 => ⟨x, h, rfl, a0, a1, a2, a3⟩) h Th (pq_self Ph) cw_Fr_refl hI (by omega) rfl) (fun o ho => ?_)
            obtain ⟨x34, h33, rfl, Th33, PSh33, Ch33, dx34⟩ := ho
            show cw_X _ _ _ _ _ [cv_i x34] h33
            have Fh33 : cw_Fr cw_Ds cw_sh mk_lf h0 h33 := cw_Fr_tr Fh Ch33
            have Ph33 : cw_PQ G c kd s h33 := pq_tr Ph PSh33
            have vx34 : x34.toInt = 0 ∨ x34.toInt = 1 := dx34.elim .inl (fun q => .inr q.1)
            refine ex_if0 oq_X12_sumRead_69 (t := 25) rfl rfl (fun (c35 : ¬ x34.toInt = 0) => ?_) (fun (c35 : ¬ (¬ x34.toInt = 0)) => ?_)
            · obtain ⟨g1, g2, g3, g4⟩ : x34.toInt = 1 ∧ sn_I h33 ∧ ri_at h 111 8 ≠ 0 ∧ (ri_at h33 111 8 = 0 ∨ ri_at h 111 7 < ri_at h33 111 7) := dx34.resolve_left (by omega)
              have hle := Ph33.1.2.1.1
              have hst := Ph33.2.2.2
              exact ih h33 Th33 Ph33 Fh33 g2 L q0 (by omega)
            · refine ex_ic oq_X12_sumRead_72 (m := 0) (by decide) (fun x36 hx36 => ?_)
              exact ex_retb oq_X12_sumRead_73 rfl (by omega) (by omega) (hQ x36 h33 Th33 Ph33 Fh33 (.inl (by omega)))
          · refine ex_al oq_X12_sumRead_55 q0 ?_
            refine ex_cv oq_X12_sumRead_56 (by decide) Th (k := 111) (d := 12) (as := []) (stk := []) rfl rfl rfl rfl rfl rfl ⟨rfl, rfl⟩ (R := fun o => ∃ (x : Int32) (hb : cv_H), o = (some (cv_i x), hb) ∧ cw_T G hb ∧ cw_PQ G (ri_at h 111 7) (ri_at h 111 8) s hb ∧ cw_Fr cw_Ds cw_sh mk_lf h hb ∧ (x.toInt = 0 ∨ x.toInt = 1 ∧ sn_I hb ∧ ri_at h 111 8 ≠ 0 ∧ (ri_at hb 111 8 = 0 ∨ ri_at h 111 7 < ri_at hb 111 7))) (sp_leafRead (cw_Xok_no2 hX) Th (pq_self Ph) hI (by omega) (fun x h a0 a1 a2 a3 => ⟨x, h, rfl, a0, a1, a2, a3⟩)) (fun o ho => ?_)
            obtain ⟨x38, h37, rfl, Th37, PSh37, Ch37, dx38⟩ := ho
            show cw_X _ _ _ _ _ [cv_i x38] h37
            have Fh37 : cw_Fr cw_Ds cw_sh mk_lf h0 h37 := cw_Fr_tr Fh Ch37
            have Ph37 : cw_PQ G c kd s h37 := pq_tr Ph PSh37
            have vx38 : x38.toInt = 0 ∨ x38.toInt = 1 := dx38.elim .inl (fun q => .inr q.1)
            refine ex_if0 oq_X12_sumRead_59 (t := 72) rfl rfl (fun (c39 : x38.toInt = 0) => ?_) (fun (c39 : ¬ (x38.toInt = 0)) => ?_)
            · refine ex_ic oq_X12_sumRead_72 (m := 0) (by decide) (fun x40 hx40 => ?_)
              exact ex_retb oq_X12_sumRead_73 rfl (by omega) (by omega) (hQ x40 h37 Th37 Ph37 Fh37 (.inl (by omega)))
            · refine ex_go oq_X12_sumRead_62 (t := 25) rfl rfl ?_
              obtain ⟨g1, g2, g3, g4⟩ : x38.toInt = 1 ∧ sn_I h37 ∧ ri_at h 111 8 ≠ 0 ∧ (ri_at h37 111 8 = 0 ∨ ri_at h 111 7 < ri_at h37 111 7) := dx38.resolve_left (by omega)
              have hle := Ph37.1.2.1.1
              have hst := Ph37.2.2.2
              exact ih h37 Th37 Ph37 Fh37 g2 L q0 (by omega)
theorem sp_sumRead {h0 : cv_H} (hX : cw_Xok X) (hT : cw_T G h0) (Ph0 : cw_PQ G c kd s h0) (hKC : ri_at h0 111 19 = ri_at h0 111 40) (hQ : ∀ (x : Int32) h', cw_T G h' → cw_PQ G c kd s h' → cw_Fr cw_Ds cw_sh mk_lf h0 h' → (x.toInt = 0 ∨ x.toInt = 1 ∧ ri_at h' 111 19 = ri_at h' 111 40 ∧ 1 ≤ ri_at h' 111 19) → Q (some (cv_i x), h')) : cw_X X 199 Q 0 (cv_ent 0 [cv_r 111]) [] h0 := by
  have Fh0 : cw_Fr cw_Ds cw_sh mk_lf h0 h0 := cw_Fr_refl
  refine ex_al oq_X12_sumRead_0 rfl ?_
  refine ex_ic oq_X12_sumRead_1 (m := 0) (by decide) (fun x501 hx501 => ?_)
  refine ex_pfi oq_X12_sumRead_2 hT (k := 111) (d := 12) rfl rfl rfl (by omega) (by omega) (fun h502 Th502 wh502 => ?_)
  have Fh502 : cw_Fr cw_Ds cw_sh mk_lf h0 h502 := cw_Fr_tr Fh0 (cw_Fr_wrf wh502 (k := 111) (d := 12) rfl rfl (by decide +kernel))
  have eh502_37 : ri_at h502 111 37 = x501.toInt := ri_self wh502
  have eh502_38 : ri_at h502 111 38 = ri_at h0 111 38 := ri_ne wh502 (by decide)
  have eh502_19 : ri_at h502 111 19 = ri_at h0 111 19 := ri_ne wh502 (by decide)
  have eh502_40 : ri_at h502 111 40 = ri_at h0 111 40 := ri_ne wh502 (by decide)
  have eh502_39 : ri_at h502 111 39 = ri_at h0 111 39 := ri_ne wh502 (by decide)
  have eh502_41 : ri_at h502 111 41 = ri_at h0 111 41 := ri_ne wh502 (by decide)
  refine ex_al oq_X12_sumRead_5 rfl ?_
  refine ex_ic oq_X12_sumRead_6 (m := 0) (by decide) (fun x503 hx503 => ?_)
  refine ex_pfi oq_X12_sumRead_7 Th502 (k := 111) (d := 12) rfl rfl rfl (by omega) (by omega) (fun h504 Th504 wh504 => ?_)
  have Fh504 : cw_Fr cw_Ds cw_sh mk_lf h0 h504 := cw_Fr_tr Fh502 (cw_Fr_wrf wh504 (k := 111) (d := 12) rfl rfl (by decide +kernel))
  have eh504_37 : ri_at h504 111 37 = ri_at h502 111 37 := ri_ne wh504 (by decide)
  have eh504_38 : ri_at h504 111 38 = x503.toInt := ri_self wh504
  have eh504_19 : ri_at h504 111 19 = ri_at h502 111 19 := ri_ne wh504 (by decide)
  have eh504_40 : ri_at h504 111 40 = ri_at h502 111 40 := ri_ne wh504 (by decide)
  have eh504_39 : ri_at h504 111 39 = ri_at h502 111 39 := ri_ne wh504 (by decide)
  have eh504_41 : ri_at h504 111 41 = ri_at h502 111 41 := ri_ne wh504 (by decide)
  refine ex_al oq_X12_sumRead_10 rfl ?_
  refine ex_ic oq_X12_sumRead_11 (m := 0) (by decide) (fun x505 hx505 => ?_)
  refine ex_pfi oq_X12_sumRead_12 Th504 (k := 111) (d := 12) rfl rfl rfl (by omega) (by omega) (fun h506 Th506 wh506 => ?_)
  have Fh506 : cw_Fr cw_Ds cw_sh mk_lf h0 h506 := cw_Fr_tr Fh504 (cw_Fr_wrf wh506 (k := 111) (d := 12) rfl rfl (by decide +kernel))
  have eh506_37 : ri_at h506 111 37 = ri_at h504 111 37 := ri_ne wh506 (by decide)
  have eh506_38 : ri_at h506 111 38 = ri_at h504 111 38 := ri_ne wh506 (by decide)
  have eh506_19 : ri_at h506 111 19 = ri_at h504 111 19 := ri_ne wh506 (by decide)
  have eh506_40 : ri_at h506 111 40 = ri_at h504 111 40 := ri_ne wh506 (by decide)
  have eh506_39 : ri_at h506 111 39 = x505.toInt := ri_self wh506
  have eh506_41 : ri_at h506 111 41 = ri_at h504 111 41 := ri_ne wh506 (by decide)
  refine ex_al oq_X12_sumRead_15 rfl ?_
  refine ex_ic oq_X12_sumRead_16 (m := 1) (by decide) (fun x507 hx507 => ?_)
  refine ex_pfb oq_X12_sumRead_17 Th506 (k := 111) (d := 12) rfl rfl rfl (by omega) (by omega) (fun h508 Th508 wh508 => ?_)
  have Fh508 : cw_Fr cw_Ds cw_sh mk_lf h0 h508 := cw_Fr_tr Fh506 (cw_Fr_wrf wh508 (k := 111) (d := 12) rfl rfl (by decide +kernel))
  have eh508_37 : ri_at h508 111 37 = ri_at h506 111 37 := ri_ne wh508 (by decide)
  have eh508_38 : ri_at h508 111 38 = ri_at h506 111 38 := ri_ne wh508 (by decide)
  have eh508_19 : ri_at h508 111 19 = ri_at h506 111 19 := ri_ne wh508 (by decide)
  have eh508_40 : ri_at h508 111 40 = ri_at h506 111 40 := ri_ne wh508 (by decide)
  have eh508_39 : ri_at h508 111 39 = ri_at h506 111 39 := ri_ne wh508 (by decide)
  have eh508_41 : ri_at h508 111 41 = x507.toInt := ri_self wh508
  refine ex_al oq_X12_sumRead_20 rfl ?_
  refine ex_ic oq_X12_sumRead_21 (m := 1) (by decide) (fun x509 hx509 => ?_)
  refine ex_pfb oq_X12_sumRead_22 Th508 (k := 111) (d := 12) rfl rfl rfl (by omega) (by omega) (fun h510 Th510 wh510 => ?_)
  have Fh510 : cw_Fr cw_Ds cw_sh mk_lf h0 h510 := cw_Fr_tr Fh508 (cw_Fr_wrf wh510 (k := 111) (d := 12) rfl rfl (by decide +kernel))
  have eh510_37 : ri_at h510 111 37 = ri_at h508 111 37 := ri_ne wh510 (by decide)
  have eh510_38 : ri_at h510 111 38 = ri_at h508 111 38 := ri_ne wh510 (by decide)
  have eh510_19 : ri_at h510 111 19 = ri_at h508 111 19 := ri_ne wh510 (by decide)
  have eh510_40 : ri_at h510 111 40 = ri_at h508 111 40 := ri_ne wh510 (by decide)
  have eh510_39 : ri_at h510 111 39 = ri_at h508 111 39 := ri_ne wh510 (by decide)
  have eh510_41 : ri_at h510 111 41 = ri_at h508 111 41 := ri_ne wh510 (by decide)
  have Ph502 : cw_PQ G c kd s h502 := pq_wf Ph0 wh502 (by decide)
  have Ph504 : cw_PQ G c kd s h504 := pq_wf Ph502 wh504 (by decide)
  have Ph506 : cw_PQ G c kd s h506 := pq_wf Ph504 wh506 (by decide)
  have Ph508 : cw_PQ G c kd s h508 := pq_wf Ph506 wh508 (by decide)
  have Ph510 : cw_PQ G c kd s h510 := pq_wf Ph508 wh510 (by decide)
  have snI : sn_I h510 := by
    have ez : (ri_at h510 111 37).toNat = 0 := by omega
    unfold sn_I
    rw [ez]
    have s0 : sn_b (ri_at h510 128) 0 = 0 ∧ sn_u (ri_at h510 128) 0 = 0 ∧ sn_p (ri_at h510 128) 0 = 0 := ⟨rfl, rfl, rfl⟩
    obtain ⟨_, _, rk1, lk1, uk1⟩ := fi_knotsRead Th510
    refine ⟨by omega, fun i hi => absurd hi (by omega), by omega, by omega, by omega, by omega, by omega⟩
  exact sr_25 hX hQ ((s - ri_at h510 111 7).toNat + 1) h510 Th510 Ph510 Fh510 snI _ rfl (.inr (Nat.le_refl _))
end SPX
