/-! ===== formulas, signs: the class ===== -/
section TZ
variable {G : Int} {X : cv_X} {Q : cv_O → Prop} {t : Nat → Int}
theorem oq_X0_readJoint_0 : cw_ho 6 0 (.aload_n 0) 1 0 0 0 := rfl
theorem oq_X0_readJoint_1 : cw_ho 6 1 (.getfield 15) 3 0 0 4 := rfl
theorem oq_X0_readJoint_4 : cw_ho 6 4 (.getfield 59) 3 6 4 0 := rfl
theorem oq_X0_readJoint_7 : cw_ho 6 7 (.bipush 7) 2 0 0 0 := rfl
theorem oq_X0_readJoint_9 : cw_ho 6 9 (.if_icmp .ne 41) 3 0 0 0 := rfl
theorem oq_X0_readJoint_12 : cw_ho 6 12 (.aload_n 0) 1 0 0 0 := rfl
theorem oq_X0_readJoint_13 : cw_ho 6 13 (.getfield 27) 3 0 3 0 := rfl
theorem oq_X0_readJoint_16 : cw_ho 6 16 (.ifCond .le 34) 3 0 0 0 := rfl
theorem oq_X0_readJoint_19 : cw_ho 6 19 (.aload_n 0) 1 0 0 0 := rfl
theorem oq_X0_readJoint_20 : cw_ho 6 20 (.iconst 0) 1 0 0 0 := rfl
theorem oq_X0_readJoint_21 : cw_ho 6 21 (.invokevirtual 44) 3 12 1 0 := rfl
theorem oq_X0_readJoint_24 : cw_ho 6 24 (.aload_n 0) 1 0 0 0 := rfl
theorem oq_X0_readJoint_25 : cw_ho 6 25 (.iconst 0) 1 0 0 0 := rfl
theorem oq_X0_readJoint_26 : cw_ho 6 26 (.aload_n 0) 1 0 0 0 := rfl
theorem oq_X0_readJoint_27 : cw_ho 6 27 (.getfield 23) 3 0 2 0 := rfl
theorem oq_X0_readJoint_30 : cw_ho 6 30 (.iconst 1) 1 0 0 0 := rfl
theorem oq_X0_readJoint_31 : cw_ho 6 31 (.isub) 1 0 0 0 := rfl
theorem oq_X0_readJoint_32 : cw_ho 6 32 (.invokestatic 93) 3 9001 2 0 := rfl
theorem oq_X0_readJoint_35 : cw_ho 6 35 (.putfield 23) 3 0 2 0 := rfl
theorem oq_X0_readJoint_38 : cw_ho 6 38 (.aload_n 0) 1 0 0 0 := rfl
theorem oq_X0_readJoint_39 : cw_ho 6 39 (.dup) 1 0 0 0 := rfl
theorem oq_X0_readJoint_40 : cw_ho 6 40 (.getfield 27) 3 0 3 0 := rfl
theorem oq_X0_readJoint_43 : cw_ho 6 43 (.iconst 1) 1 0 0 0 := rfl
theorem oq_X0_readJoint_44 : cw_ho 6 44 (.isub) 1 0 0 0 := rfl
theorem oq_X0_readJoint_45 : cw_ho 6 45 (.putfield 27) 3 0 3 0 := rfl
theorem oq_X0_readJoint_48 : cw_ho 6 48 (.iconst 0) 1 0 0 0 := rfl
theorem oq_X0_readJoint_49 : cw_ho 6 49 (.ireturn) 1 0 0 0 := rfl
theorem oq_X0_readJoint_50 : cw_ho 6 50 (.aload_n 0) 1 0 0 0 := rfl
theorem oq_X0_readJoint_51 : cw_ho 6 51 (.invokevirtual 40) 3 7 0 0 := rfl
theorem oq_X0_readJoint_54 : cw_ho 6 54 (.istore_n 1) 1 0 0 0 := rfl
theorem oq_X0_readJoint_55 : cw_ho 6 55 (.iload_n 1) 1 0 0 0 := rfl
theorem oq_X0_readJoint_56 : cw_ho 6 56 (.iconst (-1)) 1 0 0 0 := rfl
theorem oq_X0_readJoint_57 : cw_ho 6 57 (.if_icmp .ne 5) 3 0 0 0 := rfl
theorem oq_X0_readJoint_60 : cw_ho 6 60 (.iconst 1) 1 0 0 0 := rfl
theorem oq_X0_readJoint_61 : cw_ho 6 61 (.ireturn) 1 0 0 0 := rfl
theorem oq_X0_readJoint_62 : cw_ho 6 62 (.iload_n 1) 1 0 0 0 := rfl
theorem oq_X0_readJoint_63 : cw_ho 6 63 (.invokestatic 99) 3 8 1 0 := rfl
theorem oq_X0_readJoint_66 : cw_ho 6 66 (.istore_n 2) 1 0 0 0 := rfl
theorem oq_X0_readJoint_67 : cw_ho 6 67 (.aload_n 0) 1 0 0 0 := rfl
theorem oq_X0_readJoint_68 : cw_ho 6 68 (.iload_n 2) 1 0 0 0 := rfl
theorem oq_X0_readJoint_69 : cw_ho 6 69 (.iconst 4) 1 0 0 0 := rfl
theorem oq_X0_readJoint_70 : cw_ho 6 70 (.if_icmp .ne 7) 3 0 0 0 := rfl
theorem oq_X0_readJoint_73 : cw_ho 6 73 (.iconst 5) 1 0 0 0 := rfl
theorem oq_X0_readJoint_74 : cw_ho 6 74 (.goto 4) 3 0 0 0 := rfl
theorem oq_X0_readJoint_77 : cw_ho 6 77 (.iload_n 2) 1 0 0 0 := rfl
theorem oq_X0_readJoint_78 : cw_ho 6 78 (.invokevirtual 44) 3 12 1 0 := rfl
theorem oq_X0_readJoint_81 : cw_ho 6 81 (.iload_n 2) 1 0 0 0 := rfl
theorem oq_X0_readJoint_82 : cw_ho 6 82 (.iconst 4) 1 0 0 0 := rfl
theorem oq_X0_readJoint_83 : cw_ho 6 83 (.if_icmp .ne 23) 3 0 0 0 := rfl
theorem oq_X0_readJoint_86 : cw_ho 6 86 (.aload_n 0) 1 0 0 0 := rfl
theorem oq_X0_readJoint_87 : cw_ho 6 87 (.getfield 23) 3 0 2 0 := rfl
theorem oq_X0_readJoint_90 : cw_ho 6 90 (.ifCond .le 16) 3 0 0 0 := rfl
theorem oq_X0_readJoint_93 : cw_ho 6 93 (.aload_n 0) 1 0 0 0 := rfl
theorem oq_X0_readJoint_94 : cw_ho 6 94 (.invokevirtual 102) 3 11 0 0 := rfl
theorem oq_X0_readJoint_97 : cw_ho 6 97 (.invokestatic 99) 3 8 1 0 := rfl
theorem oq_X0_readJoint_100 : cw_ho 6 100 (.iconst 4) 1 0 0 0 := rfl
theorem oq_X0_readJoint_101 : cw_ho 6 101 (.if_icmp .ne 5) 3 0 0 0 := rfl
theorem oq_X0_readJoint_104 : cw_ho 6 104 (.iconst 1) 1 0 0 0 := rfl
theorem oq_X0_readJoint_105 : cw_ho 6 105 (.ireturn) 1 0 0 0 := rfl
theorem oq_X0_readJoint_106 : cw_ho 6 106 (.aload_n 0) 1 0 0 0 := rfl
theorem oq_X0_readJoint_107 : cw_ho 6 107 (.iconst 1) 1 0 0 0 := rfl
theorem oq_X0_readJoint_108 : cw_ho 6 108 (.putfield 33) 3 0 5 2 := rfl
theorem oq_X0_readJoint_111 : cw_ho 6 111 (.aload_n 0) 1 0 0 0 := rfl
theorem oq_X0_readJoint_112 : cw_ho 6 112 (.iload_n 1) 1 0 0 0 := rfl
theorem oq_X0_readJoint_113 : cw_ho 6 113 (.sipush 20001) 3 0 0 0 := rfl
theorem oq_X0_readJoint_116 : cw_ho 6 116 (.if_icmp .eq 10) 3 0 0 0 := rfl
theorem oq_X0_readJoint_119 : cw_ho 6 119 (.iload_n 1) 1 0 0 0 := rfl
theorem oq_X0_readJoint_120 : cw_ho 6 120 (.sipush 20000) 3 0 0 0 := rfl
theorem oq_X0_readJoint_123 : cw_ho 6 123 (.if_icmp .ne 7) 3 0 0 0 := rfl
theorem oq_X0_readJoint_126 : cw_ho 6 126 (.iconst 1) 1 0 0 0 := rfl
theorem oq_X0_readJoint_127 : cw_ho 6 127 (.goto 4) 3 0 0 0 := rfl
theorem oq_X0_readJoint_130 : cw_ho 6 130 (.iconst 0) 1 0 0 0 := rfl
theorem oq_X0_readJoint_131 : cw_ho 6 131 (.putfield 37) 3 0 6 2 := rfl
theorem oq_X0_readJoint_134 : cw_ho 6 134 (.aload_n 0) 1 0 0 0 := rfl
theorem oq_X0_readJoint_135 : cw_ho 6 135 (.iload_n 1) 1 0 0 0 := rfl
theorem oq_X0_readJoint_136 : cw_ho 6 136 (.invokevirtual 69) 3 9 1 0 := rfl
theorem oq_X0_readJoint_139 : cw_ho 6 139 (.ireturn) 1 0 0 0 := rfl
set_option maxHeartbeats 8000000 in
theorem jt_tail {h0 : cv_H} {n p : Nat} {b : Nat} (hb4 : cw_sh[b]? = some 4) (hp7 : cw_at h0 53 7 = some (cv_r b)) {Z : (Int × Nat) ⊕ (zF4 × Nat)} {st : List Int} {a kn cd : Int} {s : Int32} (hQ : ∀ (x : Int32) h', cw_T G h' → cw_Fr cw_Ds cw_sh kk_X0_readJoint.2.2.2.2.2.1 h0 h' → zCs t n (.inr p) h' → zFe t n p (Z) x.toInt (fun s => zFC b h' s.1 s.2.1 s.2.2.1 s.2.2.2) → Q (some (cv_i x), h')) (hZ : Z = if kn = 64 then .inl (2, za t n p) else .inr ((a :: st, kn + 1, 1, if zrk a < 3 then 1 else 0), zx t n p)) (ha3 : 3 ≤ a) (ha14 : a ≤ 14) (has : s.toInt = zsi a) (h : cv_H) {L : cv_L} (hT : cw_T G h) (Fh : cw_Fr cw_Ds cw_sh kk_X0_readJoint.2.2.2.2.2.1 h0 h) (hS : zCs t n (.inr p) h) (ho : zok st) (hrw : zrow h 54 (st.map zsi)) (hhc : ri_at h 53 2 = st.length) (hop : ri_at h 53 3 = zc0 st) (hcd : ri_at h b 2 = cd) (hkn : ri_at h b 3 = kn) (hco : cd + zcb st + zcu st = kn) (hc0 : 0 ≤ cd) (hk64 : kn ≤ 64) (hb8 : zc0 st ≤ 8) (g0 : cv_get L 0 = some (cv_r 53)) (g1 : cv_get L 1 = some (cv_i s)) : cw_X X 6 Q 106 L [] h := by
  have Fh0 : cw_Fr cw_Ds cw_sh kk_X0_readJoint.2.2.2.2.2.1 h0 h0 := cw_Fr_refl
  have hP7 : ∀ h, cw_Fr cw_Ds cw_sh kk_X0_readJoint.2.2.2.2.2.1 h0 h → cw_at h 53 7 = some (cv_r b) := fun h F => (F.2 53 0 7 rfl (by decide +kernel)).trans hp7
  have hzl := zc_len ho
  refine ex_al oq_X0_readJoint_106 g0 ?_
  refine ex_ic oq_X0_readJoint_107 (m := 1) (by decide) (fun x101 hx101 => ?_)
  refine ex_pfb oq_X0_readJoint_108 hT (k := 53) (d := 0) rfl rfl rfl (by omega) (by omega) (fun h102 Th102 wh102 => ?_)
  have Fh102 : cw_Fr cw_Ds cw_sh kk_X0_readJoint.2.2.2.2.2.1 h0 h102 := cw_Fr_tr Fh (cw_Fr_wrf wh102 (k := 53) (d := 0) rfl rfl (by decide +kernel))
  have eh102_53_2 : ri_at h102 53 2 = (st.length : Int) := (ri_ne wh102 (.inr (by decide))).trans hhc
  have eh102_53_3 : ri_at h102 53 3 = zc0 st := (ri_ne wh102 (.inr (by decide))).trans hop
  have eh102_53_5 : ri_at h102 53 5 = x101.toInt := ri_self wh102
  have eh102_53_6 : ri_at h102 53 6 = ri_at h 53 6 := ri_ne wh102 (.inr (by decide))
  have eh102_b_2 : ri_at h102 b 2 = cd := (ri_ne wh102 (.inl (cw_kne (k := b) (d := 4) (k' := 53) (d' := 0) hb4 rfl (by decide)))).trans hcd
  have eh102_b_3 : ri_at h102 b 3 = kn := (ri_ne wh102 (.inl (cw_kne (k := b) (d := 4) (k' := 53) (d' := 0) hb4 rfl (by decide)))).trans hkn
  have Sh102 := zCs_wr (d := 0) (k := 53) wh102 rfl hS (.inl ⟨by decide, by decide⟩)
  have Rh102 := zrow_eq hrw (fun i => ri_ne wh102 (.inl (by decide)))
  refine ex_al oq_X0_readJoint_111 g0 ?_
  refine ex_il oq_X0_readJoint_112 g1 ?_
  refine ex_si oq_X0_readJoint_113 (m := 20001) (by decide) (fun x103 hx103 => ?_)
  refine ex_if oq_X0_readJoint_116 (t := 126) rfl rfl (fun (c104 : s.toInt = x103.toInt) => ?_) (fun (c104 : ¬ (s.toInt = x103.toInt)) => ?_)
  · refine ex_ic oq_X0_readJoint_126 (m := 1) (by decide) (fun x105 hx105 => ?_)
    refine ex_go oq_X0_readJoint_127 (t := 131) rfl rfl ?_
    refine ex_pfb oq_X0_readJoint_131 Th102 (k := 53) (d := 0) rfl rfl rfl (by omega) (by omega) (fun h106 Th106 wh106 => ?_)
    have Fh106 : cw_Fr cw_Ds cw_sh kk_X0_readJoint.2.2.2.2.2.1 h0 h106 := cw_Fr_tr Fh102 (cw_Fr_wrf wh106 (k := 53) (d := 0) rfl rfl (by decide +kernel))
    have eh106_53_2 : ri_at h106 53 2 = (st.length : Int) := (ri_ne wh106 (.inr (by decide))).trans eh102_53_2
    clear eh102_53_2
    have eh106_53_3 : ri_at h106 53 3 = zc0 st := (ri_ne wh106 (.inr (by decide))).trans eh102_53_3
    clear eh102_53_3
    have eh106_53_5 : ri_at h106 53 5 = x101.toInt := (ri_ne wh106 (.inr (by decide))).trans eh102_53_5
    clear eh102_53_5
    have eh106_53_6 : ri_at h106 53 6 = x105.toInt := ri_self wh106
    have eh106_b_2 : ri_at h106 b 2 = cd := (ri_ne wh106 (.inl (cw_kne (k := b) (d := 4) (k' := 53) (d' := 0) hb4 rfl (by decide)))).trans eh102_b_2
    clear eh102_b_2
    have eh106_b_3 : ri_at h106 b 3 = kn := (ri_ne wh106 (.inl (cw_kne (k := b) (d := 4) (k' := 53) (d' := 0) hb4 rfl (by decide)))).trans eh102_b_3
    clear eh102_b_3
    have Sh106 := zCs_wr (d := 0) (k := 53) wh106 rfl Sh102 (.inl ⟨by decide, by decide⟩)
    have Rh106 := zrow_eq Rh102 (fun i => ri_ne wh106 (.inl (by decide)))
    refine ex_al oq_X0_readJoint_134 g0 ?_
    refine ex_il oq_X0_readJoint_135 g1 ?_
    refine ex_cv oq_X0_readJoint_136 (by decide) Th106 (k := 53) (d := 0) (as := [cv_i s]) (stk := []) rfl rfl rfl rfl rfl rfl ⟨rfl, rfl⟩ (R := fun o => ∃ (x : Int32) (hb : cv_H), o = (some (cv_i x), hb) ∧ cw_T G hb ∧ cw_Fr cw_Ds cw_sh kk_X0_holdKnot.2.2.2.2.2.1 h106 hb ∧ (x.toInt = 2 ∧ 64 ≤ kn ∨ x.toInt = 0 ∧ kn < 64 ∧ zrow hb 54 ((a :: st).map zsi) ∧ ri_at hb 53 2 = (st).length + 1 ∧ ri_at hb b 3 = kn + 1)) (ct_holdKnot hb4 (hP7 _ Fh106) (a := a) (st := st) Th106 Rh106 eh106_53_2 eh106_b_3 (by omega) (by omega) (has) (fun x hb b1 b2 b3 => ⟨x, hb, rfl, b1, b2, b3⟩)) (fun o ho => ?_)
    obtain ⟨x107, h108, rfl, Th108, Ch108, dx107⟩ := ho
    show cw_X _ _ _ _ _ [cv_i x107] h108
    have Fh108 : cw_Fr cw_Ds cw_sh kk_X0_readJoint.2.2.2.2.2.1 h0 h108 := cw_Fr_tr Fh106 (cw_Fr_mono (by decide +kernel) Ch108)
    have eh108_53_3 : ri_at h108 53 3 = zc0 st := (ri_frf Ch108 (k := 53) (d := 0) rfl rfl (by decide +kernel)).trans eh106_53_3
    clear eh106_53_3
    have eh108_53_5 : ri_at h108 53 5 = x101.toInt := (ri_frf Ch108 (k := 53) (d := 0) rfl rfl (by decide +kernel)).trans eh106_53_5
    clear eh106_53_5
    have eh108_53_6 : ri_at h108 53 6 = x105.toInt := (ri_frf Ch108 (k := 53) (d := 0) rfl rfl (by decide +kernel)).trans eh106_53_6
    clear eh106_53_6
    have eh108_b_2 : ri_at h108 b 2 = cd := (ri_frf Ch108 (k := b) (d := 4) hb4 rfl (by decide +kernel)).trans eh106_b_2
    clear eh106_b_2
    have Sh108 := zCs_fr Ch108 (by decide +kernel) Sh106
    have r3 := zrk_3 ha3 ha14
    have sp := zsi_p (.inr (.inr ⟨ha3, ha14⟩))
    rcases dx107 with dd | ⟨d1, d2, d3, d4, d5⟩
    · exact ex_reti oq_X0_readJoint_139 rfl (hQ x107 h108 Th108 Fh108 Sh108 (.inr ⟨_, by rw [hZ, if_pos (by omega)], by omega, by decide⟩))
    · have z0 := zc_3 (st := st) ha3
      have hm6 : ri_at h108 53 6 = if zrk a < 3 then 1 else 0 := by split <;> omega
      exact ex_reti oq_X0_readJoint_139 rfl (hQ x107 h108 Th108 Fh108 Sh108 (.inl ⟨((a :: st, kn + 1, 1, if zrk a < 3 then 1 else 0) : zF4), by rw [hZ, if_neg (by omega)], by omega, show zFC b h108 (a :: st) (kn + 1) 1 (if zrk a < 3 then 1 else 0) from zFC_mk ⟨.inr (.inr ⟨ha3, ha14⟩), ho⟩ d3 (by rw [List.length_cons]; omega) (by omega) (by omega) hm6 (by omega) d5 (by omega) (by omega) (by omega)⟩))
  · refine ex_il oq_X0_readJoint_119 g1 ?_
    refine ex_si oq_X0_readJoint_120 (m := 20000) (by decide) (fun x109 hx109 => ?_)
    refine ex_if oq_X0_readJoint_123 (t := 130) rfl rfl (fun (c110 : ¬ s.toInt = x109.toInt) => ?_) (fun (c110 : ¬ (¬ s.toInt = x109.toInt)) => ?_)
    · refine ex_ic oq_X0_readJoint_130 (m := 0) (by decide) (fun x111 hx111 => ?_)
      refine ex_pfb oq_X0_readJoint_131 Th102 (k := 53) (d := 0) rfl rfl rfl (by omega) (by omega) (fun h112 Th112 wh112 => ?_)
      have Fh112 : cw_Fr cw_Ds cw_sh kk_X0_readJoint.2.2.2.2.2.1 h0 h112 := cw_Fr_tr Fh102 (cw_Fr_wrf wh112 (k := 53) (d := 0) rfl rfl (by decide +kernel))
      have eh112_53_2 : ri_at h112 53 2 = (st.length : Int) := (ri_ne wh112 (.inr (by decide))).trans eh102_53_2
      clear eh102_53_2
      have eh112_53_3 : ri_at h112 53 3 = zc0 st := (ri_ne wh112 (.inr (by decide))).trans eh102_53_3
      clear eh102_53_3
      have eh112_53_5 : ri_at h112 53 5 = x101.toInt := (ri_ne wh112 (.inr (by decide))).trans eh102_53_5
      clear eh102_53_5
      have eh112_53_6 : ri_at h112 53 6 = x111.toInt := ri_self wh112
      have eh112_b_2 : ri_at h112 b 2 = cd := (ri_ne wh112 (.inl (cw_kne (k := b) (d := 4) (k' := 53) (d' := 0) hb4 rfl (by decide)))).trans eh102_b_2
      clear eh102_b_2
      have eh112_b_3 : ri_at h112 b 3 = kn := (ri_ne wh112 (.inl (cw_kne (k := b) (d := 4) (k' := 53) (d' := 0) hb4 rfl (by decide)))).trans eh102_b_3
      clear eh102_b_3
      have Sh112 := zCs_wr (d := 0) (k := 53) wh112 rfl Sh102 (.inl ⟨by decide, by decide⟩)
      have Rh112 := zrow_eq Rh102 (fun i => ri_ne wh112 (.inl (by decide)))
      refine ex_al oq_X0_readJoint_134 g0 ?_
      refine ex_il oq_X0_readJoint_135 g1 ?_
      refine ex_cv oq_X0_readJoint_136 (by decide) Th112 (k := 53) (d := 0) (as := [cv_i s]) (stk := []) rfl rfl rfl rfl rfl rfl ⟨rfl, rfl⟩ (R := fun o => ∃ (x : Int32) (hb : cv_H), o = (some (cv_i x), hb) ∧ cw_T G hb ∧ cw_Fr cw_Ds cw_sh kk_X0_holdKnot.2.2.2.2.2.1 h112 hb ∧ (x.toInt = 2 ∧ 64 ≤ kn ∨ x.toInt = 0 ∧ kn < 64 ∧ zrow hb 54 ((a :: st).map zsi) ∧ ri_at hb 53 2 = (st).length + 1 ∧ ri_at hb b 3 = kn + 1)) (ct_holdKnot hb4 (hP7 _ Fh112) (a := a) (st := st) Th112 Rh112 eh112_53_2 eh112_b_3 (by omega) (by omega) (has) (fun x hb b1 b2 b3 => ⟨x, hb, rfl, b1, b2, b3⟩)) (fun o ho => ?_)
      obtain ⟨x113, h114, rfl, Th114, Ch114, dx113⟩ := ho
      show cw_X _ _ _ _ _ [cv_i x113] h114
      have Fh114 : cw_Fr cw_Ds cw_sh kk_X0_readJoint.2.2.2.2.2.1 h0 h114 := cw_Fr_tr Fh112 (cw_Fr_mono (by decide +kernel) Ch114)
      have eh114_53_3 : ri_at h114 53 3 = zc0 st := (ri_frf Ch114 (k := 53) (d := 0) rfl rfl (by decide +kernel)).trans eh112_53_3
      clear eh112_53_3
      have eh114_53_5 : ri_at h114 53 5 = x101.toInt := (ri_frf Ch114 (k := 53) (d := 0) rfl rfl (by decide +kernel)).trans eh112_53_5
      clear eh112_53_5
      have eh114_53_6 : ri_at h114 53 6 = x111.toInt := (ri_frf Ch114 (k := 53) (d := 0) rfl rfl (by decide +kernel)).trans eh112_53_6
      clear eh112_53_6
      have eh114_b_2 : ri_at h114 b 2 = cd := (ri_frf Ch114 (k := b) (d := 4) hb4 rfl (by decide +kernel)).trans eh112_b_2
      clear eh112_b_2
      have Sh114 := zCs_fr Ch114 (by decide +kernel) Sh112
      have r3 := zrk_3 ha3 ha14
      have sp := zsi_p (.inr (.inr ⟨ha3, ha14⟩))
      rcases dx113 with dd | ⟨d1, d2, d3, d4, d5⟩
      · exact ex_reti oq_X0_readJoint_139 rfl (hQ x113 h114 Th114 Fh114 Sh114 (.inr ⟨_, by rw [hZ, if_pos (by omega)], by omega, by decide⟩))
      · have z0 := zc_3 (st := st) ha3
        have hm6 : ri_at h114 53 6 = if zrk a < 3 then 1 else 0 := by split <;> omega
        exact ex_reti oq_X0_readJoint_139 rfl (hQ x113 h114 Th114 Fh114 Sh114 (.inl ⟨((a :: st, kn + 1, 1, if zrk a < 3 then 1 else 0) : zF4), by rw [hZ, if_neg (by omega)], by omega, show zFC b h114 (a :: st) (kn + 1) 1 (if zrk a < 3 then 1 else 0) from zFC_mk ⟨.inr (.inr ⟨ha3, ha14⟩), ho⟩ d3 (by rw [List.length_cons]; omega) (by omega) (by omega) hm6 (by omega) d5 (by omega) (by omega) (by omega)⟩))
    · refine ex_ic oq_X0_readJoint_126 (m := 1) (by decide) (fun x115 hx115 => ?_)
      refine ex_go oq_X0_readJoint_127 (t := 131) rfl rfl ?_
      refine ex_pfb oq_X0_readJoint_131 Th102 (k := 53) (d := 0) rfl rfl rfl (by omega) (by omega) (fun h116 Th116 wh116 => ?_)
      have Fh116 : cw_Fr cw_Ds cw_sh kk_X0_readJoint.2.2.2.2.2.1 h0 h116 := cw_Fr_tr Fh102 (cw_Fr_wrf wh116 (k := 53) (d := 0) rfl rfl (by decide +kernel))
      have eh116_53_2 : ri_at h116 53 2 = (st.length : Int) := (ri_ne wh116 (.inr (by decide))).trans eh102_53_2
      clear eh102_53_2
      have eh116_53_3 : ri_at h116 53 3 = zc0 st := (ri_ne wh116 (.inr (by decide))).trans eh102_53_3
      clear eh102_53_3
      have eh116_53_5 : ri_at h116 53 5 = x101.toInt := (ri_ne wh116 (.inr (by decide))).trans eh102_53_5
      clear eh102_53_5
      have eh116_53_6 : ri_at h116 53 6 = x115.toInt := ri_self wh116
      have eh116_b_2 : ri_at h116 b 2 = cd := (ri_ne wh116 (.inl (cw_kne (k := b) (d := 4) (k' := 53) (d' := 0) hb4 rfl (by decide)))).trans eh102_b_2
      clear eh102_b_2
      have eh116_b_3 : ri_at h116 b 3 = kn := (ri_ne wh116 (.inl (cw_kne (k := b) (d := 4) (k' := 53) (d' := 0) hb4 rfl (by decide)))).trans eh102_b_3
      clear eh102_b_3
      have Sh116 := zCs_wr (d := 0) (k := 53) wh116 rfl Sh102 (.inl ⟨by decide, by decide⟩)
      have Rh116 := zrow_eq Rh102 (fun i => ri_ne wh116 (.inl (by decide)))
      refine ex_al oq_X0_readJoint_134 g0 ?_
      refine ex_il oq_X0_readJoint_135 g1 ?_
      refine ex_cv oq_X0_readJoint_136 (by decide) Th116 (k := 53) (d := 0) (as := [cv_i s]) (stk := []) rfl rfl rfl rfl rfl rfl ⟨rfl, rfl⟩ (R := fun o => ∃ (x : Int32) (hb : cv_H), o = (some (cv_i x), hb) ∧ cw_T G hb ∧ cw_Fr cw_Ds cw_sh kk_X0_holdKnot.2.2.2.2.2.1 h116 hb ∧ (x.toInt = 2 ∧ 64 ≤ kn ∨ x.toInt = 0 ∧ kn < 64 ∧ zrow hb 54 ((a :: st).map zsi) ∧ ri_at hb 53 2 = (st).length + 1 ∧ ri_at hb b 3 = kn + 1)) (ct_holdKnot hb4 (hP7 _ Fh116) (a := a) (st := st) Th116 Rh116 eh116_53_2 eh116_b_3 (by omega) (by omega) (has) (fun x hb b1 b2 b3 => ⟨x, hb, rfl, b1, b2, b3⟩)) (fun o ho => ?_)
      obtain ⟨x117, h118, rfl, Th118, Ch118, dx117⟩ := ho
      show cw_X _ _ _ _ _ [cv_i x117] h118
      have Fh118 : cw_Fr cw_Ds cw_sh kk_X0_readJoint.2.2.2.2.2.1 h0 h118 := cw_Fr_tr Fh116 (cw_Fr_mono (by decide +kernel) Ch118)
      have eh118_53_3 : ri_at h118 53 3 = zc0 st := (ri_frf Ch118 (k := 53) (d := 0) rfl rfl (by decide +kernel)).trans eh116_53_3
      clear eh116_53_3
      have eh118_53_5 : ri_at h118 53 5 = x101.toInt := (ri_frf Ch118 (k := 53) (d := 0) rfl rfl (by decide +kernel)).trans eh116_53_5
      clear eh116_53_5
      have eh118_53_6 : ri_at h118 53 6 = x115.toInt := (ri_frf Ch118 (k := 53) (d := 0) rfl rfl (by decide +kernel)).trans eh116_53_6
      clear eh116_53_6
      have eh118_b_2 : ri_at h118 b 2 = cd := (ri_frf Ch118 (k := b) (d := 4) hb4 rfl (by decide +kernel)).trans eh116_b_2
      clear eh116_b_2
      have Sh118 := zCs_fr Ch118 (by decide +kernel) Sh116
      have r3 := zrk_3 ha3 ha14
      have sp := zsi_p (.inr (.inr ⟨ha3, ha14⟩))
      rcases dx117 with dd | ⟨d1, d2, d3, d4, d5⟩
      · exact ex_reti oq_X0_readJoint_139 rfl (hQ x117 h118 Th118 Fh118 Sh118 (.inr ⟨_, by rw [hZ, if_pos (by omega)], by omega, by decide⟩))
      · have z0 := zc_3 (st := st) ha3
        have hm6 : ri_at h118 53 6 = if zrk a < 3 then 1 else 0 := by split <;> omega
        exact ex_reti oq_X0_readJoint_139 rfl (hQ x117 h118 Th118 Fh118 Sh118 (.inl ⟨((a :: st, kn + 1, 1, if zrk a < 3 then 1 else 0) : zF4), by rw [hZ, if_neg (by omega)], by omega, show zFC b h118 (a :: st) (kn + 1) 1 (if zrk a < 3 then 1 else 0) from zFC_mk ⟨.inr (.inr ⟨ha3, ha14⟩), ho⟩ d3 (by rw [List.length_cons]; omega) (by omega) (by omega) hm6 (by omega) d5 (by omega) (by omega) (by omega)⟩))
set_option maxHeartbeats 8000000 in
theorem ct_readJoint {h0 : cv_H} {n p : Nat} {b : Nat} (hb4 : cw_sh[b]? = some 4) (hp7 : cw_at h0 53 7 = some (cv_r b)) {st : List Int} {kn m : Int} (hT : cw_T G h0) (hS : zCs t n (.inr p) h0) (hF : zFC b h0 st kn 0 m) (hQ : ∀ (x : Int32) h', cw_T G h' → cw_Fr cw_Ds cw_sh kk_X0_readJoint.2.2.2.2.2.1 h0 h' → zCs t n (.inr p) h' → zFe t n p (zsg t n st kn m p) x.toInt (fun s => zFC b h' s.1 s.2.1 s.2.2.1 s.2.2.2) → Q (some (cv_i x), h')) : cw_X X 6 Q 0 (cv_ent 0 [cv_r 53]) [] h0 := by
  have Fh0 : cw_Fr cw_Ds cw_sh kk_X0_readJoint.2.2.2.2.2.1 h0 h0 := cw_Fr_refl
  have hP7 : ∀ h, cw_Fr cw_Ds cw_sh kk_X0_readJoint.2.2.2.2.2.1 h0 h → cw_at h 53 7 = some (cv_r b) := fun h F => (F.2 53 0 7 rfl (by decide +kernel)).trans hp7
  obtain ⟨ho, hrw, hhc, hop, hwv, hmn, hco, hkn, hc0, hk64, hb8⟩ := hF
  obtain ⟨cd, hcd⟩ : ∃ c, ri_at h0 b 2 = c := ⟨_, rfl⟩
  rw [hcd] at hco hc0
  have hzl := zc_len ho
  refine ex_al oq_X0_readJoint_0 rfl ?_
  refine ex_gf oq_X0_readJoint_1 hT (k := 53) (d := 0) rfl rfl (ri_ref (k := 53) (k' := 51) (d := 0) (f := 0) hT rfl rfl rfl (by decide) (ri_uniq (by decide +kernel))) ?_
  obtain ⟨pnh0, yah0, ybh0, ych0, ydh0, yfh0⟩ := zCs_at hS
  obtain ⟨kch0, ykh0⟩ : ∃ k, ri_at h0 51 4 = k := ⟨_, rfl⟩
  obtain ⟨vch0, yvh0⟩ : ∃ k, ri_at h0 51 6 = k := ⟨_, rfl⟩
  rw [ykh0, yvh0] at ydh0
  replace ydh0 := zhd_i ydh0
  have zlh0 := zx_le (t := t) (n := n) (p := p) (by omega)
  obtain ⟨x201, ax201, rx201, lx201, ux201⟩ := ri_fld (k := 51) (d := 6) (f := 4) hT rfl rfl rfl
  try dsimp only at lx201 ux201
  refine ex_gf oq_X0_readJoint_4 hT (k := 51) (d := 6) rfl rfl ax201 ?_
  clear lx201 ux201
  have rx201 := (rx201.symm.trans ykh0 : x201.toInt = kch0)
  refine ex_bi oq_X0_readJoint_7 (m := 7) (by decide) (fun x202 hx202 => ?_)
  refine ex_if oq_X0_readJoint_9 (t := 50) rfl rfl (fun (c203 : ¬ x201.toInt = x202.toInt) => ?_) (fun (c203 : ¬ (¬ x201.toInt = x202.toInt)) => ?_)
  · have ra := rl_pa (show tz_rel _ _ _ _ from ydh0)
    have hsk := zsk_ok (show tz_rel _ _ _ _ from ydh0)
    have hncl : ¬ ((zk t n p = 4 ∧ zw t n p = 41) ∧ 0 < zc0 st) := by omega
    refine ex_al oq_X0_readJoint_50 rfl ?_
    refine ex_cv oq_X0_readJoint_51 (by decide) hT (k := 53) (d := 0) (as := []) (stk := []) rfl rfl rfl rfl rfl rfl ⟨rfl, rfl⟩ (R := fun o => ∃ x : Int32, o = (some (cv_i x), h0) ∧ x.toInt = zsv (zk t n p) (zw t n p)) (ct_signOf hT ykh0 yvh0 (show tz_rel _ _ _ _ from ydh0) (fun x q => ⟨x, rfl, q⟩)) (fun o ho => ?_)
    obtain ⟨x204, rfl, qx204⟩ := ho
    show cw_X _ _ _ _ _ [cv_i x204] h0
    refine ex_isA oq_X0_readJoint_54 (fun L205 gL205_1 kL205 => ?_)
    have gL205_0 : cv_get L205 0 = some (cv_r 53) := kL205 0 _ (by decide) (fun _ => rfl) rfl
    refine ex_il oq_X0_readJoint_55 gL205_1 ?_
    refine ex_ic oq_X0_readJoint_56 (m := (-1)) (by decide) (fun x206 hx206 => ?_)
    refine ex_if oq_X0_readJoint_57 (t := 62) rfl rfl (fun (c207 : ¬ x204.toInt = x206.toInt) => ?_) (fun (c207 : ¬ (¬ x204.toInt = x206.toInt)) => ?_)
    · have hs0 : ¬ (zsk (zk t n p) (zw t n p)) = 0 := by intro q; unfold zsv at qx204; rw [if_pos q] at qx204; omega
      have has : x204.toInt = zsi (zsk (zk t n p) (zw t n p)) := by rw [qx204]; unfold zsv; rw [if_neg hs0]
      have hrz := zrn_i (a := (zsk (zk t n p) (zw t n p))) (by omega)
      rw [if_neg hs0] at hrz
      have hrb := zrk_b (k := (zsk (zk t n p) (zw t n p)))
      refine ex_il oq_X0_readJoint_62 gL205_1 ?_
      refine ex_cs oq_X0_readJoint_63 (by decide) (as := [cv_i x204]) (stk := []) rfl rfl rfl ⟨rfl, rfl⟩ (R := fun o => ∃ x : Int32, o = (some (cv_i x), h0) ∧ x.toInt = zrn x204.toInt) (ct_rankOf x204 (fun x q => ⟨x, rfl, q⟩)) (fun o ho => ?_)
      obtain ⟨x208, rfl, qx208⟩ := ho
      show cw_X _ _ _ _ _ [cv_i x208] h0
      refine ex_isA oq_X0_readJoint_66 (fun L209 gL209_2 kL209 => ?_)
      have gL209_1 : cv_get L209 1 = some (cv_i x204) := kL209 1 _ (by decide) (fun _ => rfl) gL205_1
      have gL209_0 : cv_get L209 0 = some (cv_r 53) := kL209 0 _ (by decide) (fun q => absurd q (by decide)) gL205_0
      refine ex_al oq_X0_readJoint_67 gL209_0 ?_
      refine ex_il oq_X0_readJoint_68 gL209_2 ?_
      refine ex_ic oq_X0_readJoint_69 (m := 4) (by decide) (fun x210 hx210 => ?_)
      refine ex_if oq_X0_readJoint_70 (t := 77) rfl rfl (fun (c211 : ¬ x208.toInt = x210.toInt) => ?_) (fun (c211 : ¬ (¬ x208.toInt = x210.toInt)) => ?_)
      · have hrk : x208.toInt = zrk (zsk (zk t n p) (zw t n p)) := by rw [qx208, has]; exact hrz
        refine ex_il oq_X0_readJoint_77 gL209_2 ?_
        have hlh212 : (if x208.toInt = 0 then 1 else x208.toInt) = (zrk (zsk (zk t n p) (zw t n p))) := by split <;> omega
        refine ex_cv oq_X0_readJoint_78 (by decide) hT (k := 53) (d := 0) (as := [cv_i x208]) (stk := []) rfl rfl rfl rfl rfl rfl ⟨rfl, rfl⟩ (R := fun o => ∃ hb : cv_H, o = (none, hb) ∧ cw_T G hb ∧ cw_Fr cw_Ds cw_sh kk_X0_release.2.2.2.2.2.1 h0 hb ∧ zrow hb 54 ((zbi (zrk (zsk (zk t n p) (zw t n p))) st).map zsi) ∧ ri_at hb 53 2 = (zbi (zrk (zsk (zk t n p) (zw t n p))) st).length ∧ ri_at hb b 2 + zcb (zbi (zrk (zsk (zk t n p) (zw t n p))) st) + zcu (zbi (zrk (zsk (zk t n p) (zw t n p))) st) = kn ∧ 0 ≤ ri_at hb b 2) (ct_release hb4 (hP7 _ Fh0) (R := x208) (kn := kn) (st := st) hT hk64 (by omega) ho hrw hhc (by omega) (by omega) (by omega) (fun hb b1 b2 b3 b4 b5 b6 => by rw [hlh212] at b3 b4 b5; exact ⟨hb, rfl, b1, b2, b3, b4, b5, b6⟩)) (fun o ho => ?_)
        obtain ⟨h212, rfl, Th212, Ch212, Rh212, ch212, sh212, nh212⟩ := ho
        show cw_X _ _ _ _ _ [] h212
        have Fh212 : cw_Fr cw_Ds cw_sh kk_X0_readJoint.2.2.2.2.2.1 h0 h212 := cw_Fr_tr Fh0 (cw_Fr_mono (by decide +kernel) Ch212)
        have eh212_53_3 : ri_at h212 53 3 = zc0 st := (ri_frf Ch212 (k := 53) (d := 0) rfl rfl (by decide +kernel)).trans hop
        have eh212_53_5 : ri_at h212 53 5 = (0 : Int) := (ri_frf Ch212 (k := 53) (d := 0) rfl rfl (by decide +kernel)).trans hwv
        have eh212_53_6 : ri_at h212 53 6 = m := (ri_frf Ch212 (k := 53) (d := 0) rfl rfl (by decide +kernel)).trans hmn
        have eh212_b_3 : ri_at h212 b 3 = kn := (ri_frf Ch212 (k := b) (d := 4) hb4 rfl (by decide +kernel)).trans hkn
        have Sh212 := zCs_fr Ch212 (by decide +kernel) hS
        obtain ⟨cdh212, hcdh212⟩ : ∃ c, ri_at h212 b 2 = c := ⟨_, rfl⟩
        rw [hcdh212] at sh212 nh212
        have hoh212 : zok (zbi (zrk (zsk (zk t n p) (zw t n p))) st) := zbi_ok ho
        have hch212 : zc0 (zbi (zrk (zsk (zk t n p) (zw t n p))) st) = zc0 st := zbi_c0 (by omega)
        have hzh212 := zc_len hoh212
        refine ex_il oq_X0_readJoint_81 gL209_2 ?_
        refine ex_ic oq_X0_readJoint_82 (m := 4) (by decide) (fun x213 hx213 => ?_)
        refine ex_if oq_X0_readJoint_83 (t := 106) rfl rfl (fun (c214 : ¬ x208.toInt = x213.toInt) => ?_) (fun (c214 : ¬ (¬ x208.toInt = x213.toInt)) => ?_)
        · have hZ : zsg t n st kn m p = if kn = 64 then .inl (2, za t n p) else .inr (((zsk (zk t n p) (zw t n p)) :: (zbi (zrk (zsk (zk t n p) (zw t n p))) st), kn + 1, 1, if zrk (zsk (zk t n p) (zw t n p)) < 3 then 1 else 0), zx t n p) := by
            unfold zsg
            rw [if_neg (fun e => hncl e), if_neg hs0, if_neg (fun e => by omega), if_neg (show ¬ zrk (zsk (zk t n p) (zw t n p)) = 4 by omega)]
          exact jt_tail hb4 hp7 (st := (zbi (zrk (zsk (zk t n p) (zw t n p))) st)) (a := (zsk (zk t n p) (zw t n p))) (kn := kn) hQ hZ (by omega) (by omega) has h212 Th212 Fh212 Sh212 hoh212 Rh212 ch212 (by omega) hcdh212 eh212_b_3 (by omega) (by omega) hk64 (by omega) gL209_0 gL209_1
        · exfalso; omega
      · have hrk : x208.toInt = zrk (zsk (zk t n p) (zw t n p)) := by rw [qx208, has]; exact hrz
        refine ex_ic oq_X0_readJoint_73 (m := 5) (by decide) (fun x215 hx215 => ?_)
        refine ex_go oq_X0_readJoint_74 (t := 78) rfl rfl ?_
        have hlh216 : (if x215.toInt = 0 then 1 else x215.toInt) = 5 := by split <;> omega
        refine ex_cv oq_X0_readJoint_78 (by decide) hT (k := 53) (d := 0) (as := [cv_i x215]) (stk := []) rfl rfl rfl rfl rfl rfl ⟨rfl, rfl⟩ (R := fun o => ∃ hb : cv_H, o = (none, hb) ∧ cw_T G hb ∧ cw_Fr cw_Ds cw_sh kk_X0_release.2.2.2.2.2.1 h0 hb ∧ zrow hb 54 ((zbi 5 st).map zsi) ∧ ri_at hb 53 2 = (zbi 5 st).length ∧ ri_at hb b 2 + zcb (zbi 5 st) + zcu (zbi 5 st) = kn ∧ 0 ≤ ri_at hb b 2) (ct_release hb4 (hP7 _ Fh0) (R := x215) (kn := kn) (st := st) hT hk64 (by omega) ho hrw hhc (by omega) (by omega) (by omega) (fun hb b1 b2 b3 b4 b5 b6 => by rw [hlh216] at b3 b4 b5; exact ⟨hb, rfl, b1, b2, b3, b4, b5, b6⟩)) (fun o ho => ?_)
        obtain ⟨h216, rfl, Th216, Ch216, Rh216, ch216, sh216, nh216⟩ := ho
        show cw_X _ _ _ _ _ [] h216
        have Fh216 : cw_Fr cw_Ds cw_sh kk_X0_readJoint.2.2.2.2.2.1 h0 h216 := cw_Fr_tr Fh0 (cw_Fr_mono (by decide +kernel) Ch216)
        have eh216_53_3 : ri_at h216 53 3 = zc0 st := (ri_frf Ch216 (k := 53) (d := 0) rfl rfl (by decide +kernel)).trans hop
        have eh216_53_5 : ri_at h216 53 5 = (0 : Int) := (ri_frf Ch216 (k := 53) (d := 0) rfl rfl (by decide +kernel)).trans hwv
        have eh216_53_6 : ri_at h216 53 6 = m := (ri_frf Ch216 (k := 53) (d := 0) rfl rfl (by decide +kernel)).trans hmn
        have eh216_b_3 : ri_at h216 b 3 = kn := (ri_frf Ch216 (k := b) (d := 4) hb4 rfl (by decide +kernel)).trans hkn
        have Sh216 := zCs_fr Ch216 (by decide +kernel) hS
        obtain ⟨cdh216, hcdh216⟩ : ∃ c, ri_at h216 b 2 = c := ⟨_, rfl⟩
        rw [hcdh216] at sh216 nh216
        have hoh216 : zok (zbi 5 st) := zbi_ok ho
        have hch216 : zc0 (zbi 5 st) = zc0 st := zbi_c0 (by omega)
        have hzh216 := zc_len hoh216
        refine ex_il oq_X0_readJoint_81 gL209_2 ?_
        refine ex_ic oq_X0_readJoint_82 (m := 4) (by decide) (fun x217 hx217 => ?_)
        refine ex_if oq_X0_readJoint_83 (t := 106) rfl rfl (fun (c218 : ¬ x208.toInt = x217.toInt) => ?_) (fun (c218 : ¬ (¬ x208.toInt = x217.toInt)) => ?_)
        · exfalso; omega
        · cases hz5 : zbi 5 st with
          | nil =>
            have hn4 : ¬ zrk ((zbi 5 st).headD 0) = 4 := by rw [hz5]; decide
            have hlz : (zbi 5 st).length = 0 := by rw [hz5]; rfl
            refine ex_al oq_X0_readJoint_86 gL209_0 ?_
            obtain ⟨x219, ax219, rx219, lx219, ux219⟩ := ri_fld (k := 53) (d := 0) (f := 2) Th216 rfl rfl rfl
            try dsimp only at lx219 ux219
            refine ex_gf oq_X0_readJoint_87 Th216 (k := 53) (d := 0) rfl rfl ax219 ?_
            clear lx219 ux219
            have rx219 := (rx219.symm.trans ch216 : x219.toInt = ((zbi 5 st).length : Int))
            refine ex_if0 oq_X0_readJoint_90 (t := 106) rfl rfl (fun (c220 : x219.toInt ≤ 0) => ?_) (fun (c220 : ¬ (x219.toInt ≤ 0)) => ?_)
            · have hZ : zsg t n st kn m p = if kn = 64 then .inl (2, za t n p) else .inr (((zsk (zk t n p) (zw t n p)) :: (zbi 5 st), kn + 1, 1, if zrk (zsk (zk t n p) (zw t n p)) < 3 then 1 else 0), zx t n p) := by
                unfold zsg
                rw [if_neg (fun e => hncl e), if_neg hs0, if_neg (by rw [if_pos (by omega)]; intro e; exact hn4 e.2), if_pos (show  zrk (zsk (zk t n p) (zw t n p)) = 4 by omega)]
              exact jt_tail hb4 hp7 (st := (zbi 5 st)) (a := (zsk (zk t n p) (zw t n p))) (kn := kn) hQ hZ (by omega) (by omega) has h216 Th216 Fh216 Sh216 hoh216 Rh216 ch216 (by omega) hcdh216 eh216_b_3 (by omega) (by omega) hk64 (by omega) gL209_0 gL209_1
            · exfalso; omega
          | cons x5 r5 =>
            have hlz : (zbi 5 st).length = r5.length + 1 := by rw [hz5]; rfl
            have hx5 : x5 = 0 ∨ x5 = 2 ∨ 3 ≤ x5 ∧ x5 ≤ 14 := by have := hoh216; rw [hz5] at this; exact this.1
            have Rz : zrow h216 54 ((x5 :: r5).map zsi) := by rw [← hz5]; exact Rh216
            have hrx := zrn_i hx5
            refine ex_al oq_X0_readJoint_86 gL209_0 ?_
            obtain ⟨x221, ax221, rx221, lx221, ux221⟩ := ri_fld (k := 53) (d := 0) (f := 2) Th216 rfl rfl rfl
            try dsimp only at lx221 ux221
            refine ex_gf oq_X0_readJoint_87 Th216 (k := 53) (d := 0) rfl rfl ax221 ?_
            clear lx221 ux221
            have rx221 := (rx221.symm.trans ch216 : x221.toInt = ((zbi 5 st).length : Int))
            refine ex_if0 oq_X0_readJoint_90 (t := 106) rfl rfl (fun (c222 : x221.toInt ≤ 0) => ?_) (fun (c222 : ¬ (x221.toInt ≤ 0)) => ?_)
            · exfalso; omega
            · refine ex_al oq_X0_readJoint_93 gL209_0 ?_
              refine ex_cv oq_X0_readJoint_94 (by decide) Th216 (k := 53) (d := 0) (as := []) (stk := []) rfl rfl rfl rfl rfl rfl ⟨rfl, rfl⟩ (R := fun o => ∃ x : Int32, o = (some (cv_i x), h216) ∧ x.toInt = zsi x5) (ct_latest (a := x5) (st := r5) Th216 Rz (by omega) (by omega) (fun x q => ⟨x, rfl, q⟩)) (fun o ho => ?_)
              obtain ⟨x223, rfl, qx223⟩ := ho
              show cw_X _ _ _ _ _ [cv_i x223] h216
              refine ex_cs oq_X0_readJoint_97 (by decide) (as := [cv_i x223]) (stk := []) rfl rfl rfl ⟨rfl, rfl⟩ (R := fun o => ∃ x : Int32, o = (some (cv_i x), h216) ∧ x.toInt = zrn x223.toInt) (ct_rankOf x223 (fun x q => ⟨x, rfl, q⟩)) (fun o ho => ?_)
              obtain ⟨x224, rfl, qx224⟩ := ho
              show cw_X _ _ _ _ _ [cv_i x224] h216
              refine ex_ic oq_X0_readJoint_100 (m := 4) (by decide) (fun x225 hx225 => ?_)
              refine ex_if oq_X0_readJoint_101 (t := 106) rfl rfl (fun (c226 : ¬ x224.toInt = x225.toInt) => ?_) (fun (c226 : ¬ (¬ x224.toInt = x225.toInt)) => ?_)
              · have hr4 : x224.toInt = if x5 = 0 then -1 else zrk x5 := by rw [qx224, qx223]; exact hrx
                have hn4 : ¬ zrk ((zbi 5 st).headD 0) = 4 := by
                  rw [hz5]
                  show ¬ zrk x5 = 4
                  intro q
                  rw [if_neg (by intro e; rw [e] at q; exact absurd q (by decide))] at hr4
                  omega
                have hZ : zsg t n st kn m p = if kn = 64 then .inl (2, za t n p) else .inr (((zsk (zk t n p) (zw t n p)) :: (zbi 5 st), kn + 1, 1, if zrk (zsk (zk t n p) (zw t n p)) < 3 then 1 else 0), zx t n p) := by
                  unfold zsg
                  rw [if_neg (fun e => hncl e), if_neg hs0, if_neg (by rw [if_pos (by omega)]; intro e; exact hn4 e.2), if_pos (show  zrk (zsk (zk t n p) (zw t n p)) = 4 by omega)]
                exact jt_tail hb4 hp7 (st := (zbi 5 st)) (a := (zsk (zk t n p) (zw t n p))) (kn := kn) hQ hZ (by omega) (by omega) has h216 Th216 Fh216 Sh216 hoh216 Rh216 ch216 (by omega) hcdh216 eh216_b_3 (by omega) (by omega) hk64 (by omega) gL209_0 gL209_1
              · have hr4 : x224.toInt = if x5 = 0 then -1 else zrk x5 := by rw [qx224, qx223]; exact hrx
                have hn4 : zrk ((zbi 5 st).headD 0) = 4 := by rw [hz5]; show zrk x5 = 4; split at hr4 <;> omega
                refine ex_ic oq_X0_readJoint_104 (m := 1) (by decide) (fun x227 hx227 => ?_)
                exact ex_reti oq_X0_readJoint_105 rfl (hQ x227 h216 Th216 Fh216 Sh216 (.inr ⟨_, by unfold zsg; rw [if_neg (fun e => hncl e), if_neg hs0, if_pos (by rw [if_pos (show zrk (zsk (zk t n p) (zw t n p)) = 4 by omega)]; exact ⟨by omega, hn4⟩)], by omega, by decide⟩))
    · have hs0 : (zsk (zk t n p) (zw t n p)) = 0 := by
        by_cases q : (zsk (zk t n p) (zw t n p)) = 0
        · exact q
        · exfalso; unfold zsv at qx204; rw [if_neg q] at qx204; have := zsi_p (a := (zsk (zk t n p) (zw t n p))) (by omega); omega
      refine ex_ic oq_X0_readJoint_60 (m := 1) (by decide) (fun x228 hx228 => ?_)
      exact ex_reti oq_X0_readJoint_61 rfl (hQ x228 h0 hT Fh0 hS (.inr ⟨_, by unfold zsg; rw [if_neg (fun e => hncl e), if_pos hs0], by omega, by decide⟩))
  · have ra := rl_pa (show tz_rel _ _ _ _ from ydh0)
    have hsk := zsk_ok (show tz_rel _ _ _ _ from ydh0)
    refine ex_al oq_X0_readJoint_12 rfl ?_
    obtain ⟨x229, ax229, rx229, lx229, ux229⟩ := ri_fld (k := 53) (d := 0) (f := 3) hT rfl rfl rfl
    try dsimp only at lx229 ux229
    refine ex_gf oq_X0_readJoint_13 hT (k := 53) (d := 0) rfl rfl ax229 ?_
    clear lx229 ux229
    have rx229 := (rx229.symm.trans hop : x229.toInt = zc0 st)
    refine ex_if0 oq_X0_readJoint_16 (t := 50) rfl rfl (fun (c230 : x229.toInt ≤ 0) => ?_) (fun (c230 : ¬ (x229.toInt ≤ 0)) => ?_)
    · have hncl : ¬ ((zk t n p = 4 ∧ zw t n p = 41) ∧ 0 < zc0 st) := by omega
      refine ex_al oq_X0_readJoint_50 rfl ?_
      refine ex_cv oq_X0_readJoint_51 (by decide) hT (k := 53) (d := 0) (as := []) (stk := []) rfl rfl rfl rfl rfl rfl ⟨rfl, rfl⟩ (R := fun o => ∃ x : Int32, o = (some (cv_i x), h0) ∧ x.toInt = zsv (zk t n p) (zw t n p)) (ct_signOf hT ykh0 yvh0 (show tz_rel _ _ _ _ from ydh0) (fun x q => ⟨x, rfl, q⟩)) (fun o ho => ?_)
      obtain ⟨x231, rfl, qx231⟩ := ho
      show cw_X _ _ _ _ _ [cv_i x231] h0
      refine ex_isA oq_X0_readJoint_54 (fun L232 gL232_1 kL232 => ?_)
      have gL232_0 : cv_get L232 0 = some (cv_r 53) := kL232 0 _ (by decide) (fun _ => rfl) rfl
      refine ex_il oq_X0_readJoint_55 gL232_1 ?_
      refine ex_ic oq_X0_readJoint_56 (m := (-1)) (by decide) (fun x233 hx233 => ?_)
      refine ex_if oq_X0_readJoint_57 (t := 62) rfl rfl (fun (c234 : ¬ x231.toInt = x233.toInt) => ?_) (fun (c234 : ¬ (¬ x231.toInt = x233.toInt)) => ?_)
      · have hs0 : ¬ (zsk (zk t n p) (zw t n p)) = 0 := by intro q; unfold zsv at qx231; rw [if_pos q] at qx231; omega
        have has : x231.toInt = zsi (zsk (zk t n p) (zw t n p)) := by rw [qx231]; unfold zsv; rw [if_neg hs0]
        have hrz := zrn_i (a := (zsk (zk t n p) (zw t n p))) (by omega)
        rw [if_neg hs0] at hrz
        have hrb := zrk_b (k := (zsk (zk t n p) (zw t n p)))
        refine ex_il oq_X0_readJoint_62 gL232_1 ?_
        refine ex_cs oq_X0_readJoint_63 (by decide) (as := [cv_i x231]) (stk := []) rfl rfl rfl ⟨rfl, rfl⟩ (R := fun o => ∃ x : Int32, o = (some (cv_i x), h0) ∧ x.toInt = zrn x231.toInt) (ct_rankOf x231 (fun x q => ⟨x, rfl, q⟩)) (fun o ho => ?_)
        obtain ⟨x235, rfl, qx235⟩ := ho
        show cw_X _ _ _ _ _ [cv_i x235] h0
        refine ex_isA oq_X0_readJoint_66 (fun L236 gL236_2 kL236 => ?_)
        have gL236_1 : cv_get L236 1 = some (cv_i x231) := kL236 1 _ (by decide) (fun _ => rfl) gL232_1
        have gL236_0 : cv_get L236 0 = some (cv_r 53) := kL236 0 _ (by decide) (fun q => absurd q (by decide)) gL232_0
        refine ex_al oq_X0_readJoint_67 gL236_0 ?_
        refine ex_il oq_X0_readJoint_68 gL236_2 ?_
        refine ex_ic oq_X0_readJoint_69 (m := 4) (by decide) (fun x237 hx237 => ?_)
        refine ex_if oq_X0_readJoint_70 (t := 77) rfl rfl (fun (c238 : ¬ x235.toInt = x237.toInt) => ?_) (fun (c238 : ¬ (¬ x235.toInt = x237.toInt)) => ?_)
        · have hrk : x235.toInt = zrk (zsk (zk t n p) (zw t n p)) := by rw [qx235, has]; exact hrz
          refine ex_il oq_X0_readJoint_77 gL236_2 ?_
          have hlh239 : (if x235.toInt = 0 then 1 else x235.toInt) = (zrk (zsk (zk t n p) (zw t n p))) := by split <;> omega
          refine ex_cv oq_X0_readJoint_78 (by decide) hT (k := 53) (d := 0) (as := [cv_i x235]) (stk := []) rfl rfl rfl rfl rfl rfl ⟨rfl, rfl⟩ (R := fun o => ∃ hb : cv_H, o = (none, hb) ∧ cw_T G hb ∧ cw_Fr cw_Ds cw_sh kk_X0_release.2.2.2.2.2.1 h0 hb ∧ zrow hb 54 ((zbi (zrk (zsk (zk t n p) (zw t n p))) st).map zsi) ∧ ri_at hb 53 2 = (zbi (zrk (zsk (zk t n p) (zw t n p))) st).length ∧ ri_at hb b 2 + zcb (zbi (zrk (zsk (zk t n p) (zw t n p))) st) + zcu (zbi (zrk (zsk (zk t n p) (zw t n p))) st) = kn ∧ 0 ≤ ri_at hb b 2) (ct_release hb4 (hP7 _ Fh0) (R := x235) (kn := kn) (st := st) hT hk64 (by omega) ho hrw hhc (by omega) (by omega) (by omega) (fun hb b1 b2 b3 b4 b5 b6 => by rw [hlh239] at b3 b4 b5; exact ⟨hb, rfl, b1, b2, b3, b4, b5, b6⟩)) (fun o ho => ?_)
          obtain ⟨h239, rfl, Th239, Ch239, Rh239, ch239, sh239, nh239⟩ := ho
          show cw_X _ _ _ _ _ [] h239
          have Fh239 : cw_Fr cw_Ds cw_sh kk_X0_readJoint.2.2.2.2.2.1 h0 h239 := cw_Fr_tr Fh0 (cw_Fr_mono (by decide +kernel) Ch239)
          have eh239_53_3 : ri_at h239 53 3 = zc0 st := (ri_frf Ch239 (k := 53) (d := 0) rfl rfl (by decide +kernel)).trans hop
          have eh239_53_5 : ri_at h239 53 5 = (0 : Int) := (ri_frf Ch239 (k := 53) (d := 0) rfl rfl (by decide +kernel)).trans hwv
          have eh239_53_6 : ri_at h239 53 6 = m := (ri_frf Ch239 (k := 53) (d := 0) rfl rfl (by decide +kernel)).trans hmn
          have eh239_b_3 : ri_at h239 b 3 = kn := (ri_frf Ch239 (k := b) (d := 4) hb4 rfl (by decide +kernel)).trans hkn
          have Sh239 := zCs_fr Ch239 (by decide +kernel) hS
          obtain ⟨cdh239, hcdh239⟩ : ∃ c, ri_at h239 b 2 = c := ⟨_, rfl⟩
          rw [hcdh239] at sh239 nh239
          have hoh239 : zok (zbi (zrk (zsk (zk t n p) (zw t n p))) st) := zbi_ok ho
          have hch239 : zc0 (zbi (zrk (zsk (zk t n p) (zw t n p))) st) = zc0 st := zbi_c0 (by omega)
          have hzh239 := zc_len hoh239
          refine ex_il oq_X0_readJoint_81 gL236_2 ?_
          refine ex_ic oq_X0_readJoint_82 (m := 4) (by decide) (fun x240 hx240 => ?_)
          refine ex_if oq_X0_readJoint_83 (t := 106) rfl rfl (fun (c241 : ¬ x235.toInt = x240.toInt) => ?_) (fun (c241 : ¬ (¬ x235.toInt = x240.toInt)) => ?_)
          · have hZ : zsg t n st kn m p = if kn = 64 then .inl (2, za t n p) else .inr (((zsk (zk t n p) (zw t n p)) :: (zbi (zrk (zsk (zk t n p) (zw t n p))) st), kn + 1, 1, if zrk (zsk (zk t n p) (zw t n p)) < 3 then 1 else 0), zx t n p) := by
              unfold zsg
              rw [if_neg (fun e => hncl e), if_neg hs0, if_neg (fun e => by omega), if_neg (show ¬ zrk (zsk (zk t n p) (zw t n p)) = 4 by omega)]
            exact jt_tail hb4 hp7 (st := (zbi (zrk (zsk (zk t n p) (zw t n p))) st)) (a := (zsk (zk t n p) (zw t n p))) (kn := kn) hQ hZ (by omega) (by omega) has h239 Th239 Fh239 Sh239 hoh239 Rh239 ch239 (by omega) hcdh239 eh239_b_3 (by omega) (by omega) hk64 (by omega) gL236_0 gL236_1
          · exfalso; omega
        · have hrk : x235.toInt = zrk (zsk (zk t n p) (zw t n p)) := by rw [qx235, has]; exact hrz
          refine ex_ic oq_X0_readJoint_73 (m := 5) (by decide) (fun x242 hx242 => ?_)
          refine ex_go oq_X0_readJoint_74 (t := 78) rfl rfl ?_
          have hlh243 : (if x242.toInt = 0 then 1 else x242.toInt) = 5 := by split <;> omega
          refine ex_cv oq_X0_readJoint_78 (by decide) hT (k := 53) (d := 0) (as := [cv_i x242]) (stk := []) rfl rfl rfl rfl rfl rfl ⟨rfl, rfl⟩ (R := fun o => ∃ hb : cv_H, o = (none, hb) ∧ cw_T G hb ∧ cw_Fr cw_Ds cw_sh kk_X0_release.2.2.2.2.2.1 h0 hb ∧ zrow hb 54 ((zbi 5 st).map zsi) ∧ ri_at hb 53 2 = (zbi 5 st).length ∧ ri_at hb b 2 + zcb (zbi 5 st) + zcu (zbi 5 st) = kn ∧ 0 ≤ ri_at hb b 2) (ct_release hb4 (hP7 _ Fh0) (R := x242) (kn := kn) (st := st) hT hk64 (by omega) ho hrw hhc (by omega) (by omega) (by omega) (fun hb b1 b2 b3 b4 b5 b6 => by rw [hlh243] at b3 b4 b5; exact ⟨hb, rfl, b1, b2, b3, b4, b5, b6⟩)) (fun o ho => ?_)
          obtain ⟨h243, rfl, Th243, Ch243, Rh243, ch243, sh243, nh243⟩ := ho
          show cw_X _ _ _ _ _ [] h243
          have Fh243 : cw_Fr cw_Ds cw_sh kk_X0_readJoint.2.2.2.2.2.1 h0 h243 := cw_Fr_tr Fh0 (cw_Fr_mono (by decide +kernel) Ch243)
          have eh243_53_3 : ri_at h243 53 3 = zc0 st := (ri_frf Ch243 (k := 53) (d := 0) rfl rfl (by decide +kernel)).trans hop
          have eh243_53_5 : ri_at h243 53 5 = (0 : Int) := (ri_frf Ch243 (k := 53) (d := 0) rfl rfl (by decide +kernel)).trans hwv
          have eh243_53_6 : ri_at h243 53 6 = m := (ri_frf Ch243 (k := 53) (d := 0) rfl rfl (by decide +kernel)).trans hmn
          have eh243_b_3 : ri_at h243 b 3 = kn := (ri_frf Ch243 (k := b) (d := 4) hb4 rfl (by decide +kernel)).trans hkn
          have Sh243 := zCs_fr Ch243 (by decide +kernel) hS
          obtain ⟨cdh243, hcdh243⟩ : ∃ c, ri_at h243 b 2 = c := ⟨_, rfl⟩
          rw [hcdh243] at sh243 nh243
          have hoh243 : zok (zbi 5 st) := zbi_ok ho
          have hch243 : zc0 (zbi 5 st) = zc0 st := zbi_c0 (by omega)
          have hzh243 := zc_len hoh243
          refine ex_il oq_X0_readJoint_81 gL236_2 ?_
          refine ex_ic oq_X0_readJoint_82 (m := 4) (by decide) (fun x244 hx244 => ?_)
          refine ex_if oq_X0_readJoint_83 (t := 106) rfl rfl (fun (c245 : ¬ x235.toInt = x244.toInt) => ?_) (fun (c245 : ¬ (¬ x235.toInt = x244.toInt)) => ?_)
          · exfalso; omega
          · cases hz5 : zbi 5 st with
            | nil =>
              have hn4 : ¬ zrk ((zbi 5 st).headD 0) = 4 := by rw [hz5]; decide
              have hlz : (zbi 5 st).length = 0 := by rw [hz5]; rfl
              refine ex_al oq_X0_readJoint_86 gL236_0 ?_
              obtain ⟨x246, ax246, rx246, lx246, ux246⟩ := ri_fld (k := 53) (d := 0) (f := 2) Th243 rfl rfl rfl
              try dsimp only at lx246 ux246
              refine ex_gf oq_X0_readJoint_87 Th243 (k := 53) (d := 0) rfl rfl ax246 ?_
              clear lx246 ux246
              have rx246 := (rx246.symm.trans ch243 : x246.toInt = ((zbi 5 st).length : Int))
              refine ex_if0 oq_X0_readJoint_90 (t := 106) rfl rfl (fun (c247 : x246.toInt ≤ 0) => ?_) (fun (c247 : ¬ (x246.toInt ≤ 0)) => ?_)
              · have hZ : zsg t n st kn m p = if kn = 64 then .inl (2, za t n p) else .inr (((zsk (zk t n p) (zw t n p)) :: (zbi 5 st), kn + 1, 1, if zrk (zsk (zk t n p) (zw t n p)) < 3 then 1 else 0), zx t n p) := by
                  unfold zsg
                  rw [if_neg (fun e => hncl e), if_neg hs0, if_neg (by rw [if_pos (by omega)]; intro e; exact hn4 e.2), if_pos (show  zrk (zsk (zk t n p) (zw t n p)) = 4 by omega)]
                exact jt_tail hb4 hp7 (st := (zbi 5 st)) (a := (zsk (zk t n p) (zw t n p))) (kn := kn) hQ hZ (by omega) (by omega) has h243 Th243 Fh243 Sh243 hoh243 Rh243 ch243 (by omega) hcdh243 eh243_b_3 (by omega) (by omega) hk64 (by omega) gL236_0 gL236_1
              · exfalso; omega
            | cons x5 r5 =>
              have hlz : (zbi 5 st).length = r5.length + 1 := by rw [hz5]; rfl
              have hx5 : x5 = 0 ∨ x5 = 2 ∨ 3 ≤ x5 ∧ x5 ≤ 14 := by have := hoh243; rw [hz5] at this; exact this.1
              have Rz : zrow h243 54 ((x5 :: r5).map zsi) := by rw [← hz5]; exact Rh243
              have hrx := zrn_i hx5
              refine ex_al oq_X0_readJoint_86 gL236_0 ?_
              obtain ⟨x248, ax248, rx248, lx248, ux248⟩ := ri_fld (k := 53) (d := 0) (f := 2) Th243 rfl rfl rfl
              try dsimp only at lx248 ux248
              refine ex_gf oq_X0_readJoint_87 Th243 (k := 53) (d := 0) rfl rfl ax248 ?_
              clear lx248 ux248
              have rx248 := (rx248.symm.trans ch243 : x248.toInt = ((zbi 5 st).length : Int))
              refine ex_if0 oq_X0_readJoint_90 (t := 106) rfl rfl (fun (c249 : x248.toInt ≤ 0) => ?_) (fun (c249 : ¬ (x248.toInt ≤ 0)) => ?_)
              · exfalso; omega
              · refine ex_al oq_X0_readJoint_93 gL236_0 ?_
                refine ex_cv oq_X0_readJoint_94 (by decide) Th243 (k := 53) (d := 0) (as := []) (stk := []) rfl rfl rfl rfl rfl rfl ⟨rfl, rfl⟩ (R := fun o => ∃ x : Int32, o = (some (cv_i x), h243) ∧ x.toInt = zsi x5) (ct_latest (a := x5) (st := r5) Th243 Rz (by omega) (by omega) (fun x q => ⟨x, rfl, q⟩)) (fun o ho => ?_)
                obtain ⟨x250, rfl, qx250⟩ := ho
                show cw_X _ _ _ _ _ [cv_i x250] h243
                refine ex_cs oq_X0_readJoint_97 (by decide) (as := [cv_i x250]) (stk := []) rfl rfl rfl ⟨rfl, rfl⟩ (R := fun o => ∃ x : Int32, o = (some (cv_i x), h243) ∧ x.toInt = zrn x250.toInt) (ct_rankOf x250 (fun x q => ⟨x, rfl, q⟩)) (fun o ho => ?_)
                obtain ⟨x251, rfl, qx251⟩ := ho
                show cw_X _ _ _ _ _ [cv_i x251] h243
                refine ex_ic oq_X0_readJoint_100 (m := 4) (by decide) (fun x252 hx252 => ?_)
                refine ex_if oq_X0_readJoint_101 (t := 106) rfl rfl (fun (c253 : ¬ x251.toInt = x252.toInt) => ?_) (fun (c253 : ¬ (¬ x251.toInt = x252.toInt)) => ?_)
                · have hr4 : x251.toInt = if x5 = 0 then -1 else zrk x5 := by rw [qx251, qx250]; exact hrx
                  have hn4 : ¬ zrk ((zbi 5 st).headD 0) = 4 := by
                    rw [hz5]
                    show ¬ zrk x5 = 4
                    intro q
                    rw [if_neg (by intro e; rw [e] at q; exact absurd q (by decide))] at hr4
                    omega
                  have hZ : zsg t n st kn m p = if kn = 64 then .inl (2, za t n p) else .inr (((zsk (zk t n p) (zw t n p)) :: (zbi 5 st), kn + 1, 1, if zrk (zsk (zk t n p) (zw t n p)) < 3 then 1 else 0), zx t n p) := by
                    unfold zsg
                    rw [if_neg (fun e => hncl e), if_neg hs0, if_neg (by rw [if_pos (by omega)]; intro e; exact hn4 e.2), if_pos (show  zrk (zsk (zk t n p) (zw t n p)) = 4 by omega)]
                  exact jt_tail hb4 hp7 (st := (zbi 5 st)) (a := (zsk (zk t n p) (zw t n p))) (kn := kn) hQ hZ (by omega) (by omega) has h243 Th243 Fh243 Sh243 hoh243 Rh243 ch243 (by omega) hcdh243 eh243_b_3 (by omega) (by omega) hk64 (by omega) gL236_0 gL236_1
                · have hr4 : x251.toInt = if x5 = 0 then -1 else zrk x5 := by rw [qx251, qx250]; exact hrx
                  have hn4 : zrk ((zbi 5 st).headD 0) = 4 := by rw [hz5]; show zrk x5 = 4; split at hr4 <;> omega
                  refine ex_ic oq_X0_readJoint_104 (m := 1) (by decide) (fun x254 hx254 => ?_)
                  exact ex_reti oq_X0_readJoint_105 rfl (hQ x254 h243 Th243 Fh243 Sh243 (.inr ⟨_, by unfold zsg; rw [if_neg (fun e => hncl e), if_neg hs0, if_pos (by rw [if_pos (show zrk (zsk (zk t n p) (zw t n p)) = 4 by omega)]; exact ⟨by omega, hn4⟩)], by omega, by decide⟩))
      · have hs0 : (zsk (zk t n p) (zw t n p)) = 0 := by
          by_cases q : (zsk (zk t n p) (zw t n p)) = 0
          · exact q
          · exfalso; unfold zsv at qx231; rw [if_neg q] at qx231; have := zsi_p (a := (zsk (zk t n p) (zw t n p))) (by omega); omega
        refine ex_ic oq_X0_readJoint_60 (m := 1) (by decide) (fun x255 hx255 => ?_)
        exact ex_reti oq_X0_readJoint_61 rfl (hQ x255 h0 hT Fh0 hS (.inr ⟨_, by unfold zsg; rw [if_neg (fun e => hncl e), if_pos hs0], by omega, by decide⟩))
    · refine ex_al oq_X0_readJoint_19 rfl ?_
      refine ex_ic oq_X0_readJoint_20 (m := 0) (by decide) (fun x256 hx256 => ?_)
      have hlh257 : (if x256.toInt = 0 then 1 else x256.toInt) = 1 := by split <;> omega
      refine ex_cv oq_X0_readJoint_21 (by decide) hT (k := 53) (d := 0) (as := [cv_i x256]) (stk := []) rfl rfl rfl rfl rfl rfl ⟨rfl, rfl⟩ (R := fun o => ∃ hb : cv_H, o = (none, hb) ∧ cw_T G hb ∧ cw_Fr cw_Ds cw_sh kk_X0_release.2.2.2.2.2.1 h0 hb ∧ zrow hb 54 ((zbi 1 st).map zsi) ∧ ri_at hb 53 2 = (zbi 1 st).length ∧ ri_at hb b 2 + zcb (zbi 1 st) + zcu (zbi 1 st) = kn ∧ 0 ≤ ri_at hb b 2) (ct_release hb4 (hP7 _ Fh0) (R := x256) (kn := kn) (st := st) hT hk64 (by omega) ho hrw hhc (by omega) (by omega) (by omega) (fun hb b1 b2 b3 b4 b5 b6 => by rw [hlh257] at b3 b4 b5; exact ⟨hb, rfl, b1, b2, b3, b4, b5, b6⟩)) (fun o ho => ?_)
      obtain ⟨h257, rfl, Th257, Ch257, Rh257, ch257, sh257, nh257⟩ := ho
      show cw_X _ _ _ _ _ [] h257
      have Fh257 : cw_Fr cw_Ds cw_sh kk_X0_readJoint.2.2.2.2.2.1 h0 h257 := cw_Fr_tr Fh0 (cw_Fr_mono (by decide +kernel) Ch257)
      have eh257_53_3 : ri_at h257 53 3 = zc0 st := (ri_frf Ch257 (k := 53) (d := 0) rfl rfl (by decide +kernel)).trans hop
      have eh257_53_5 : ri_at h257 53 5 = (0 : Int) := (ri_frf Ch257 (k := 53) (d := 0) rfl rfl (by decide +kernel)).trans hwv
      have eh257_53_6 : ri_at h257 53 6 = m := (ri_frf Ch257 (k := 53) (d := 0) rfl rfl (by decide +kernel)).trans hmn
      have eh257_b_3 : ri_at h257 b 3 = kn := (ri_frf Ch257 (k := b) (d := 4) hb4 rfl (by decide +kernel)).trans hkn
      have Sh257 := zCs_fr Ch257 (by decide +kernel) hS
      obtain ⟨cdh257, hcdh257⟩ : ∃ c, ri_at h257 b 2 = c := ⟨_, rfl⟩
      rw [hcdh257] at sh257 nh257
      have hoh257 : zok (zbi 1 st) := zbi_ok ho
      have hch257 : zc0 (zbi 1 st) = zc0 st := zbi_c0 (by omega)
      have hzh257 := zc_len hoh257
      refine ex_al oq_X0_readJoint_24 rfl ?_
      refine ex_ic oq_X0_readJoint_25 (m := 0) (by decide) (fun x258 hx258 => ?_)
      refine ex_al oq_X0_readJoint_26 rfl ?_
      obtain ⟨x259, ax259, rx259, lx259, ux259⟩ := ri_fld (k := 53) (d := 0) (f := 2) Th257 rfl rfl rfl
      try dsimp only at lx259 ux259
      refine ex_gf oq_X0_readJoint_27 Th257 (k := 53) (d := 0) rfl rfl ax259 ?_
      clear lx259 ux259
      have rx259 := (rx259.symm.trans ch257 : x259.toInt = ((zbi 1 st).length : Int))
      refine ex_ic oq_X0_readJoint_30 (m := 1) (by decide) (fun x260 hx260 => ?_)
      refine ex_sub oq_X0_readJoint_31 (by omega) (fun x261 hx261 => ?_)
      refine ex_max oq_X0_readJoint_32 (by decide) (Nat.le_of_ble_eq_true rfl) (fun x262 hx262 => ?_)
      refine ex_pfi oq_X0_readJoint_35 Th257 (k := 53) (d := 0) rfl rfl rfl (cw_i32 _).1 (cw_i32 _).2 (fun h263 Th263 wh263 => ?_)
      have Fh263 : cw_Fr cw_Ds cw_sh kk_X0_readJoint.2.2.2.2.2.1 h0 h263 := cw_Fr_tr Fh257 (cw_Fr_wrf wh263 (k := 53) (d := 0) rfl rfl (by decide +kernel))
      have eh263_53_2 : ri_at h263 53 2 = x262.toInt := ri_self wh263
      have eh263_53_3 : ri_at h263 53 3 = zc0 st := (ri_ne wh263 (.inr (by decide))).trans eh257_53_3
      clear eh257_53_3
      have eh263_53_5 : ri_at h263 53 5 = (0 : Int) := (ri_ne wh263 (.inr (by decide))).trans eh257_53_5
      clear eh257_53_5
      have eh263_53_6 : ri_at h263 53 6 = m := (ri_ne wh263 (.inr (by decide))).trans eh257_53_6
      clear eh257_53_6
      have eh263_b_2 : ri_at h263 b 2 = cdh257 := (ri_ne wh263 (.inl (cw_kne (k := b) (d := 4) (k' := 53) (d' := 0) hb4 rfl (by decide)))).trans hcdh257
      have eh263_b_3 : ri_at h263 b 3 = kn := (ri_ne wh263 (.inl (cw_kne (k := b) (d := 4) (k' := 53) (d' := 0) hb4 rfl (by decide)))).trans eh257_b_3
      clear eh257_b_3
      have Sh263 := zCs_wr (d := 0) (k := 53) wh263 rfl Sh257 (.inl ⟨by decide, by decide⟩)
      have Rh263 := zrow_eq Rh257 (fun i => ri_ne wh263 (.inl (by decide)))
      refine ex_al oq_X0_readJoint_38 rfl ?_
      refine ex_dup oq_X0_readJoint_39 rfl ?_
      obtain ⟨x264, ax264, rx264, lx264, ux264⟩ := ri_fld (k := 53) (d := 0) (f := 3) Th263 rfl rfl rfl
      try dsimp only at lx264 ux264
      refine ex_gf oq_X0_readJoint_40 Th263 (k := 53) (d := 0) rfl rfl ax264 ?_
      clear lx264 ux264
      have rx264 := (rx264.symm.trans eh263_53_3 : x264.toInt = zc0 st)
      refine ex_ic oq_X0_readJoint_43 (m := 1) (by decide) (fun x265 hx265 => ?_)
      refine ex_sub oq_X0_readJoint_44 (by omega) (fun x266 hx266 => ?_)
      refine ex_pfi oq_X0_readJoint_45 Th263 (k := 53) (d := 0) rfl rfl rfl (cw_i32 _).1 (cw_i32 _).2 (fun h267 Th267 wh267 => ?_)
      have Fh267 : cw_Fr cw_Ds cw_sh kk_X0_readJoint.2.2.2.2.2.1 h0 h267 := cw_Fr_tr Fh263 (cw_Fr_wrf wh267 (k := 53) (d := 0) rfl rfl (by decide +kernel))
      have eh267_53_2 : ri_at h267 53 2 = x262.toInt := (ri_ne wh267 (.inr (by decide))).trans eh263_53_2
      clear eh263_53_2
      have eh267_53_3 : ri_at h267 53 3 = x266.toInt := ri_self wh267
      have eh267_53_5 : ri_at h267 53 5 = (0 : Int) := (ri_ne wh267 (.inr (by decide))).trans eh263_53_5
      clear eh263_53_5
      have eh267_53_6 : ri_at h267 53 6 = m := (ri_ne wh267 (.inr (by decide))).trans eh263_53_6
      clear eh263_53_6
      have eh267_b_2 : ri_at h267 b 2 = cdh257 := (ri_ne wh267 (.inl (cw_kne (k := b) (d := 4) (k' := 53) (d' := 0) hb4 rfl (by decide)))).trans eh263_b_2
      clear eh263_b_2
      have eh267_b_3 : ri_at h267 b 3 = kn := (ri_ne wh267 (.inl (cw_kne (k := b) (d := 4) (k' := 53) (d' := 0) hb4 rfl (by decide)))).trans eh263_b_3
      clear eh263_b_3
      have Sh267 := zCs_wr (d := 0) (k := 53) wh267 rfl Sh263 (.inl ⟨by decide, by decide⟩)
      have Rh267 := zrow_eq Rh263 (fun i => ri_ne wh267 (.inl (by decide)))
      refine ex_ic oq_X0_readJoint_48 (m := 0) (by decide) (fun x268 hx268 => ?_)
      obtain ⟨r0, hr0, hor⟩ := zbi_br ho (by omega)
      rw [hr0] at Rh267 hch257 hzh257 sh257 ch257
      have z0 := zc_0 (st := r0)
      have hl0 : ((0 : Int) :: r0).length = r0.length + 1 := rfl
      exact ex_reti oq_X0_readJoint_49 rfl (hQ x268 h267 Th267 Fh267 Sh267 (.inl ⟨((r0, kn, 0, m) : zF4), by unfold zsg; rw [if_pos (by omega), hr0]; rfl, by omega, show zFC b h267 r0 kn 0 m from zFC_mk hor (zrow_tail Rh267) (by omega) (by omega) eh267_53_5 eh267_53_6 (by omega) eh267_b_3 (by omega) hk64 (by omega)⟩))
end TZ
