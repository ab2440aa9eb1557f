/-! ===== what formulas tell, the class: signs ===== -/
section TZ
variable {G : Int} {X : cv_X} {Q : cv_O → Prop} {t : Nat → Int}
theorem zbi_len {l : Int} : ∀ {st : List Int}, (zbi l st).length ≤ st.length
  | [] => Nat.le_refl _
  | a :: st => by
    rw [zbi]
    split
    · exact Nat.le_succ_of_le zbi_len
    · exact Nat.le_refl _
set_option maxHeartbeats 8000000 in
theorem ct_readJointD {h0 : cv_H} {b : Nat} (hb4 : cw_sh[b]? = some 4) (hk2 : cw_sh[b + 2]? = some 29) (hp7 : cw_at h0 53 7 = some (cv_r b)) (hp1 : cw_at h0 b 1 = some (cv_r (b + 2))) {st cl : List Int} {kn oc k w kc vc : Int} {nm : Nat} (hT : cw_T G h0) (ho : zok st) (hrw : zrow h0 54 (st.map zsi)) (hhc : ri_at h0 53 2 = st.length) (hsl : st.length < 73) (hop : ri_at h0 53 3 = oc) (hkn : ri_at h0 b 3 = kn) (hk64 : kn ≤ 64) (hcc : ri_at h0 b 2 = cl.length) (hco : (cl.length : Int) + zcb st + zcu st = kn) (hcl : zNm h0 (b + 2) 0 cl) (hnm : ri_at h0 53 4 = nm) (hk : ri_at h0 51 4 = kc) (hv : ri_at h0 51 6 = vc) (hrel : tz_rel k w kc vc)
    (hQ : ∀ (x : Int32) h', cw_T G h' → cw_Fr cw_Ds cw_sh kk_X0_readJoint.2.2.2.2.2.1 h0 h' → (x.toInt ≠ 0 ∨ (ri_at h' 53 4 = nm ∧ ((kc = 7 ∧ 0 < oc) ∧ ri_at h' b 2 = (cl ++ (zbp 1 st).map zsi).length ∧ zNm h' (b + 2) 0 (cl ++ (zbp 1 st).map zsi) ∨ ¬ (kc = 7 ∧ 0 < oc) ∧ ¬ zsk k w = 0 ∧ ri_at h' b 2 = (cl ++ (zbp (if zrk (zsk k w) = 4 then 5 else zrk (zsk k w)) st).map zsi).length ∧ zNm h' (b + 2) 0 (cl ++ (zbp (if zrk (zsk k w) = 4 then 5 else zrk (zsk k w)) st).map zsi)))) → Q (some (cv_i x), h')) : cw_X X 6 Q 0 (cv_ent 0 [cv_r 53]) [] h0 := by
  have Fh0 : cw_Fr cw_Ds cw_sh kk_X0_readJoint.2.2.2.2.2.1 h0 h0 := cw_Fr_refl
  have hP7 : ∀ h, cw_Fr cw_Ds cw_sh kk_X0_readJoint.2.2.2.2.2.1 h0 h → cw_at h 53 7 = some (cv_r b) := fun h F => (F.2 53 0 7 rfl (by decide +kernel)).trans hp7
  have hP1 : ∀ h, cw_Fr cw_Ds cw_sh kk_X0_readJoint.2.2.2.2.2.1 h0 h → cw_at h b 1 = some (cv_r (b + 2)) := fun h F => (F.2 b 4 1 hb4 (by decide +kernel)).trans hp1
  have hzl := zc_len ho
  refine ex_al oq_X0_readJoint_0 rfl ?_
  refine ex_gf oq_X0_readJoint_1 hT (k := 53) (d := 0) rfl rfl (ri_ref (k := 53) (k' := 51) (d := 0) (f := 0) hT rfl rfl rfl (by decide) (ri_uniq (by decide +kernel))) ?_
  obtain ⟨x201, ax201, rx201, lx201, ux201⟩ := ri_fld (k := 51) (d := 6) (f := 4) hT rfl rfl rfl
  try dsimp only at lx201 ux201
  refine ex_gf oq_X0_readJoint_4 hT (k := 51) (d := 6) rfl rfl ax201 ?_
  clear lx201 ux201
  have rx201 := (rx201.symm.trans hk : x201.toInt = kc)
  refine ex_bi oq_X0_readJoint_7 (m := 7) (by decide) (fun x202 hx202 => ?_)
  refine ex_if oq_X0_readJoint_9 (t := 50) rfl rfl (fun (c203 : ¬ x201.toInt = x202.toInt) => ?_) (fun (c203 : ¬ (¬ x201.toInt = x202.toInt)) => ?_)
  · refine ex_al oq_X0_readJoint_50 rfl ?_
    refine ex_cv oq_X0_readJoint_51 (by decide) hT (k := 53) (d := 0) (as := []) (stk := []) rfl rfl rfl rfl rfl rfl ⟨rfl, rfl⟩ (R := fun o => ∃ x : Int32, o = (some (cv_i x), h0) ∧ x.toInt = zsv k w) (ct_signOf hT hk hv hrel (fun x q => ⟨x, rfl, q⟩)) (fun o ho9 => ?_)
    obtain ⟨x204, rfl, qx204⟩ := ho9
    show cw_X _ _ _ _ _ [cv_i x204] h0
    refine ex_isA oq_X0_readJoint_54 (fun L205 gL205_1 kL205 => ?_)
    have gL205_0 : cv_get L205 0 = some (cv_r 53) := kL205 0 _ (by decide) (fun _ => rfl) rfl
    refine ex_il oq_X0_readJoint_55 gL205_1 ?_
    refine ex_ic oq_X0_readJoint_56 (m := (-1)) (by decide) (fun x206 hx206 => ?_)
    refine ex_if oq_X0_readJoint_57 (t := 62) rfl rfl (fun (c207 : ¬ x204.toInt = x206.toInt) => ?_) (fun (c207 : ¬ (¬ x204.toInt = x206.toInt)) => ?_)
    · have hs0 : ¬ (zsk k w) = 0 := by intro q; unfold zsv at qx204; rw [if_pos q] at qx204; omega
      have has : x204.toInt = zsi (zsk k w) := by rw [qx204]; unfold zsv; rw [if_neg hs0]
      have hsk := zsk_ok hrel
      have hrz := zrn_i (a := (zsk k w)) (by omega)
      rw [if_neg hs0] at hrz
      have hrb := zrk_b (k := (zsk k w))
      refine ex_il oq_X0_readJoint_62 gL205_1 ?_
      refine ex_cs oq_X0_readJoint_63 (by decide) (as := [cv_i x204]) (stk := []) rfl rfl rfl ⟨rfl, rfl⟩ (R := fun o => ∃ x : Int32, o = (some (cv_i x), h0) ∧ x.toInt = zrn x204.toInt) (ct_rankOf x204 (fun x q => ⟨x, rfl, q⟩)) (fun o ho9 => ?_)
      obtain ⟨x208, rfl, qx208⟩ := ho9
      show cw_X _ _ _ _ _ [cv_i x208] h0
      refine ex_isA oq_X0_readJoint_66 (fun L209 gL209_2 kL209 => ?_)
      have gL209_1 : cv_get L209 1 = some (cv_i x204) := kL209 1 _ (by decide) (fun _ => rfl) gL205_1
      have gL209_0 : cv_get L209 0 = some (cv_r 53) := kL209 0 _ (by decide) (fun q => absurd q (by decide)) gL205_0
      refine ex_al oq_X0_readJoint_67 gL209_0 ?_
      refine ex_il oq_X0_readJoint_68 gL209_2 ?_
      refine ex_ic oq_X0_readJoint_69 (m := 4) (by decide) (fun x210 hx210 => ?_)
      refine ex_if oq_X0_readJoint_70 (t := 77) rfl rfl (fun (c211 : ¬ x208.toInt = x210.toInt) => ?_) (fun (c211 : ¬ (¬ x208.toInt = x210.toInt)) => ?_)
      · have hrk : x208.toInt = zrk (zsk k w) := by rw [qx208, has]; exact hrz
        have hr1 := zrk_p (a := (zsk k w)) (by omega)
        refine ex_il oq_X0_readJoint_77 gL209_2 ?_
        have hlh212 : (if x208.toInt = 0 then 1 else x208.toInt) = (zrk (zsk k w)) := by split <;> omega
        refine ex_cv oq_X0_readJoint_78 (by decide) hT (k := 53) (d := 0) (as := [cv_i x208]) (stk := []) rfl rfl rfl rfl rfl rfl ⟨rfl, rfl⟩ (R := fun o => ∃ hb : cv_H, o = (none, hb) ∧ cw_T G hb ∧ cw_Fr cw_Ds cw_sh kk_X0_release.2.2.2.2.2.1 h0 hb ∧ zrow hb 54 ((zbi (zrk (zsk k w)) st).map zsi) ∧ ri_at hb 53 2 = (zbi (zrk (zsk k w)) st).length ∧ zNm hb (b + 2) 0 (cl ++ (zbp (zrk (zsk k w)) st).map zsi) ∧ ri_at hb b 2 = (cl ++ (zbp (zrk (zsk k w)) st).map zsi).length) (ct_releaseD hb4 hk2 (hP7 _ Fh0) (hP1 _ Fh0) (R := x208) (kn := kn) (st := st) (cl := cl) hT hk64 (by omega) ho hrw hhc hcc hco (by omega) (zNm_eq hcl (fun i => rfl)) (fun hb b1 b2 b3 b4 b5 b6 b7 b8 => by rw [hlh212] at b3 b4 b7 b8; exact ⟨hb, rfl, b1, b2, b3, b4, b7, b8⟩)) (fun o ho9 => ?_)
        obtain ⟨h212, rfl, Th212, Ch212, Rh212, ch212, mh212, nh212⟩ := ho9
        show cw_X _ _ _ _ _ [] h212
        have Fh212 : cw_Fr cw_Ds cw_sh kk_X0_readJoint.2.2.2.2.2.1 h0 h212 := cw_Fr_tr Fh0 (cw_Fr_mono (by decide +kernel) Ch212)
        have eh212_53_3 : ri_at h212 53 3 = oc := (ri_frf Ch212 (k := 53) (d := 0) rfl rfl (by decide +kernel)).trans hop
        have eh212_b_3 : ri_at h212 b 3 = kn := (ri_frf Ch212 (k := b) (d := 4) hb4 rfl (by decide +kernel)).trans hkn
        have eh212_51_4 : ri_at h212 51 4 = kc := (ri_frf Ch212 (k := 51) (d := 6) rfl rfl (by decide +kernel)).trans hk
        have eh212_51_6 : ri_at h212 51 6 = vc := (ri_frf Ch212 (k := 51) (d := 6) rfl rfl (by decide +kernel)).trans hv
        have eh212_53_4 : ri_at h212 53 4 = (nm : Int) := (ri_frf Ch212 (k := 53) (d := 0) rfl rfl (by decide +kernel)).trans hnm
        have hoh212 : zok (zbi (zrk (zsk k w)) st) := zbi_ok ho
        have hzh212 := zc_len hoh212
        have hcsh212 : zc0 (zbi (zrk (zsk k w)) st) = zc0 st := zbi_c0 (by omega)
        have hlnh212 : (zbi (zrk (zsk k w)) st).length ≤ st.length := zbi_len
        refine ex_il oq_X0_readJoint_81 gL209_2 ?_
        refine ex_ic oq_X0_readJoint_82 (m := 4) (by decide) (fun x213 hx213 => ?_)
        refine ex_if oq_X0_readJoint_83 (t := 106) rfl rfl (fun (c214 : ¬ x208.toInt = x213.toInt) => ?_) (fun (c214 : ¬ (¬ x208.toInt = x213.toInt)) => ?_)
        · refine ex_al oq_X0_readJoint_106 gL209_0 ?_
          refine ex_ic oq_X0_readJoint_107 (m := 1) (by decide) (fun x215 hx215 => ?_)
          refine ex_pfb oq_X0_readJoint_108 Th212 (k := 53) (d := 0) rfl rfl rfl (by omega) (by omega) (fun h216 Th216 wh216 => ?_)
          have Fh216 : cw_Fr cw_Ds cw_sh kk_X0_readJoint.2.2.2.2.2.1 h0 h216 := cw_Fr_tr Fh212 (cw_Fr_wrf wh216 (k := 53) (d := 0) rfl rfl (by decide +kernel))
          have eh216_53_2 : ri_at h216 53 2 = ((zbi (zrk (zsk k w)) st).length : Int) := (ri_ne wh216 (.inr (by decide))).trans ch212
          have eh216_53_3 : ri_at h216 53 3 = oc := (ri_ne wh216 (.inr (by decide))).trans eh212_53_3
          clear eh212_53_3
          have eh216_b_2 : ri_at h216 b 2 = ((cl ++ (zbp (zrk (zsk k w)) st).map zsi).length : Int) := (ri_ne wh216 (.inl (cw_kne (k := b) (d := 4) (k' := 53) (d' := 0) hb4 rfl (by decide)))).trans nh212
          have eh216_b_3 : ri_at h216 b 3 = kn := (ri_ne wh216 (.inl (cw_kne (k := b) (d := 4) (k' := 53) (d' := 0) hb4 rfl (by decide)))).trans eh212_b_3
          clear eh212_b_3
          have eh216_51_4 : ri_at h216 51 4 = kc := (ri_ne wh216 (.inl (by decide))).trans eh212_51_4
          clear eh212_51_4
          have eh216_51_6 : ri_at h216 51 6 = vc := (ri_ne wh216 (.inl (by decide))).trans eh212_51_6
          clear eh212_51_6
          have eh216_53_4 : ri_at h216 53 4 = (nm : Int) := (ri_ne wh216 (.inr (by decide))).trans eh212_53_4
          clear eh212_53_4
          have Rh216 := zrow_eq Rh212 (fun i => ri_ne wh216 (.inl (by decide)))
          refine ex_al oq_X0_readJoint_111 gL209_0 ?_
          refine ex_il oq_X0_readJoint_112 gL209_1 ?_
          refine ex_si oq_X0_readJoint_113 (m := 20001) (by decide) (fun x217 hx217 => ?_)
          refine ex_if oq_X0_readJoint_116 (t := 126) rfl rfl (fun (c218 : x204.toInt = x217.toInt) => ?_) (fun (c218 : ¬ (x204.toInt = x217.toInt)) => ?_)
          · refine ex_ic oq_X0_readJoint_126 (m := 1) (by decide) (fun x219 hx219 => ?_)
            refine ex_go oq_X0_readJoint_127 (t := 131) rfl rfl ?_
            refine ex_pfb oq_X0_readJoint_131 Th216 (k := 53) (d := 0) rfl rfl rfl (by omega) (by omega) (fun h220 Th220 wh220 => ?_)
            have Fh220 : cw_Fr cw_Ds cw_sh kk_X0_readJoint.2.2.2.2.2.1 h0 h220 := cw_Fr_tr Fh216 (cw_Fr_wrf wh220 (k := 53) (d := 0) rfl rfl (by decide +kernel))
            have eh220_53_2 : ri_at h220 53 2 = ((zbi (zrk (zsk k w)) st).length : Int) := (ri_ne wh220 (.inr (by decide))).trans eh216_53_2
            clear eh216_53_2
            have eh220_53_3 : ri_at h220 53 3 = oc := (ri_ne wh220 (.inr (by decide))).trans eh216_53_3
            clear eh216_53_3
            have eh220_b_2 : ri_at h220 b 2 = ((cl ++ (zbp (zrk (zsk k w)) st).map zsi).length : Int) := (ri_ne wh220 (.inl (cw_kne (k := b) (d := 4) (k' := 53) (d' := 0) hb4 rfl (by decide)))).trans eh216_b_2
            clear eh216_b_2
            have eh220_b_3 : ri_at h220 b 3 = kn := (ri_ne wh220 (.inl (cw_kne (k := b) (d := 4) (k' := 53) (d' := 0) hb4 rfl (by decide)))).trans eh216_b_3
            clear eh216_b_3
            have eh220_51_4 : ri_at h220 51 4 = kc := (ri_ne wh220 (.inl (by decide))).trans eh216_51_4
            clear eh216_51_4
            have eh220_51_6 : ri_at h220 51 6 = vc := (ri_ne wh220 (.inl (by decide))).trans eh216_51_6
            clear eh216_51_6
            have eh220_53_4 : ri_at h220 53 4 = (nm : Int) := (ri_ne wh220 (.inr (by decide))).trans eh216_53_4
            clear eh216_53_4
            have Rh220 := zrow_eq Rh216 (fun i => ri_ne wh220 (.inl (by decide)))
            refine ex_al oq_X0_readJoint_134 gL209_0 ?_
            refine ex_il oq_X0_readJoint_135 gL209_1 ?_
            refine ex_cv oq_X0_readJoint_136 (by decide) Th220 (k := 53) (d := 0) (as := [cv_i x204]) (stk := []) rfl rfl rfl rfl rfl rfl ⟨rfl, rfl⟩ (R := fun o => ∃ (x : Int32) (hb : cv_H), o = (some (cv_i x), hb) ∧ cw_T G hb ∧ cw_Fr cw_Ds cw_sh kk_X0_holdKnot.2.2.2.2.2.1 h220 hb) (ct_holdKnot hb4 (hP7 _ Fh220) (a := (zsk k w)) (st := (zbi (zrk (zsk k w)) st)) Th220 Rh220 eh220_53_2 eh220_b_3 (by omega) (by omega) has (fun x hb b1 b2 b3 => ⟨x, hb, rfl, b1, b2⟩)) (fun o ho9 => ?_)
            obtain ⟨x221, h222, rfl, Th222, Ch222⟩ := ho9
            show cw_X _ _ _ _ _ [cv_i x221] h222
            have Fh222 : cw_Fr cw_Ds cw_sh kk_X0_readJoint.2.2.2.2.2.1 h0 h222 := cw_Fr_tr Fh220 (cw_Fr_mono (by decide +kernel) Ch222)
            have eh222_53_3 : ri_at h222 53 3 = oc := (ri_frf Ch222 (k := 53) (d := 0) rfl rfl (by decide +kernel)).trans eh220_53_3
            clear eh220_53_3
            have eh222_b_2 : ri_at h222 b 2 = ((cl ++ (zbp (zrk (zsk k w)) st).map zsi).length : Int) := (ri_frf Ch222 (k := b) (d := 4) hb4 rfl (by decide +kernel)).trans eh220_b_2
            clear eh220_b_2
            have eh222_51_4 : ri_at h222 51 4 = kc := (ri_frf Ch222 (k := 51) (d := 6) rfl rfl (by decide +kernel)).trans eh220_51_4
            clear eh220_51_4
            have eh222_51_6 : ri_at h222 51 6 = vc := (ri_frf Ch222 (k := 51) (d := 6) rfl rfl (by decide +kernel)).trans eh220_51_6
            clear eh220_51_6
            have eh222_53_4 : ri_at h222 53 4 = (nm : Int) := (ri_frf Ch222 (k := 53) (d := 0) rfl rfl (by decide +kernel)).trans eh220_53_4
            clear eh220_53_4
            exact ex_reti oq_X0_readJoint_139 rfl (hQ x221 h222 Th222 Fh222 (.inr ⟨eh222_53_4, .inr ⟨by omega, hs0, (by rw [if_neg (show ¬ zrk (zsk k w) = 4 by omega)]; exact eh222_b_2), (by rw [if_neg (show ¬ zrk (zsk k w) = 4 by omega)]; exact zNm_eq mh212 (fun i => ((ri_frr Ch222 (k := (b + 2)) (d := 29) hk2 rfl (by decide +kernel)).trans ((ri_ne wh220 (.inl (cw_kne (k := (b + 2)) (d := 29) (k' := 53) (d' := 0) hk2 rfl (by decide)))).trans (ri_ne wh216 (.inl (cw_kne (k := (b + 2)) (d := 29) (k' := 53) (d' := 0) hk2 rfl (by decide))))))))⟩⟩))
          · refine ex_il oq_X0_readJoint_119 gL209_1 ?_
            refine ex_si oq_X0_readJoint_120 (m := 20000) (by decide) (fun x223 hx223 => ?_)
            refine ex_if oq_X0_readJoint_123 (t := 130) rfl rfl (fun (c224 : ¬ x204.toInt = x223.toInt) => ?_) (fun (c224 : ¬ (¬ x204.toInt = x223.toInt)) => ?_)
            · refine ex_ic oq_X0_readJoint_130 (m := 0) (by decide) (fun x225 hx225 => ?_)
              refine ex_pfb oq_X0_readJoint_131 Th216 (k := 53) (d := 0) rfl rfl rfl (by omega) (by omega) (fun h226 Th226 wh226 => ?_)
              have Fh226 : cw_Fr cw_Ds cw_sh kk_X0_readJoint.2.2.2.2.2.1 h0 h226 := cw_Fr_tr Fh216 (cw_Fr_wrf wh226 (k := 53) (d := 0) rfl rfl (by decide +kernel))
              have eh226_53_2 : ri_at h226 53 2 = ((zbi (zrk (zsk k w)) st).length : Int) := (ri_ne wh226 (.inr (by decide))).trans eh216_53_2
              clear eh216_53_2
              have eh226_53_3 : ri_at h226 53 3 = oc := (ri_ne wh226 (.inr (by decide))).trans eh216_53_3
              clear eh216_53_3
              have eh226_b_2 : ri_at h226 b 2 = ((cl ++ (zbp (zrk (zsk k w)) st).map zsi).length : Int) := (ri_ne wh226 (.inl (cw_kne (k := b) (d := 4) (k' := 53) (d' := 0) hb4 rfl (by decide)))).trans eh216_b_2
              clear eh216_b_2
              have eh226_b_3 : ri_at h226 b 3 = kn := (ri_ne wh226 (.inl (cw_kne (k := b) (d := 4) (k' := 53) (d' := 0) hb4 rfl (by decide)))).trans eh216_b_3
              clear eh216_b_3
              have eh226_51_4 : ri_at h226 51 4 = kc := (ri_ne wh226 (.inl (by decide))).trans eh216_51_4
              clear eh216_51_4
              have eh226_51_6 : ri_at h226 51 6 = vc := (ri_ne wh226 (.inl (by decide))).trans eh216_51_6
              clear eh216_51_6
              have eh226_53_4 : ri_at h226 53 4 = (nm : Int) := (ri_ne wh226 (.inr (by decide))).trans eh216_53_4
              clear eh216_53_4
              have Rh226 := zrow_eq Rh216 (fun i => ri_ne wh226 (.inl (by decide)))
              refine ex_al oq_X0_readJoint_134 gL209_0 ?_
              refine ex_il oq_X0_readJoint_135 gL209_1 ?_
              refine ex_cv oq_X0_readJoint_136 (by decide) Th226 (k := 53) (d := 0) (as := [cv_i x204]) (stk := []) rfl rfl rfl rfl rfl rfl ⟨rfl, rfl⟩ (R := fun o => ∃ (x : Int32) (hb : cv_H), o = (some (cv_i x), hb) ∧ cw_T G hb ∧ cw_Fr cw_Ds cw_sh kk_X0_holdKnot.2.2.2.2.2.1 h226 hb) (ct_holdKnot hb4 (hP7 _ Fh226) (a := (zsk k w)) (st := (zbi (zrk (zsk k w)) st)) Th226 Rh226 eh226_53_2 eh226_b_3 (by omega) (by omega) has (fun x hb b1 b2 b3 => ⟨x, hb, rfl, b1, b2⟩)) (fun o ho9 => ?_)
              obtain ⟨x227, h228, rfl, Th228, Ch228⟩ := ho9
              show cw_X _ _ _ _ _ [cv_i x227] h228
              have Fh228 : cw_Fr cw_Ds cw_sh kk_X0_readJoint.2.2.2.2.2.1 h0 h228 := cw_Fr_tr Fh226 (cw_Fr_mono (by decide +kernel) Ch228)
              have eh228_53_3 : ri_at h228 53 3 = oc := (ri_frf Ch228 (k := 53) (d := 0) rfl rfl (by decide +kernel)).trans eh226_53_3
              clear eh226_53_3
              have eh228_b_2 : ri_at h228 b 2 = ((cl ++ (zbp (zrk (zsk k w)) st).map zsi).length : Int) := (ri_frf Ch228 (k := b) (d := 4) hb4 rfl (by decide +kernel)).trans eh226_b_2
              clear eh226_b_2
              have eh228_51_4 : ri_at h228 51 4 = kc := (ri_frf Ch228 (k := 51) (d := 6) rfl rfl (by decide +kernel)).trans eh226_51_4
              clear eh226_51_4
              have eh228_51_6 : ri_at h228 51 6 = vc := (ri_frf Ch228 (k := 51) (d := 6) rfl rfl (by decide +kernel)).trans eh226_51_6
              clear eh226_51_6
              have eh228_53_4 : ri_at h228 53 4 = (nm : Int) := (ri_frf Ch228 (k := 53) (d := 0) rfl rfl (by decide +kernel)).trans eh226_53_4
              clear eh226_53_4
              exact ex_reti oq_X0_readJoint_139 rfl (hQ x227 h228 Th228 Fh228 (.inr ⟨eh228_53_4, .inr ⟨by omega, hs0, (by rw [if_neg (show ¬ zrk (zsk k w) = 4 by omega)]; exact eh228_b_2), (by rw [if_neg (show ¬ zrk (zsk k w) = 4 by omega)]; exact zNm_eq mh212 (fun i => ((ri_frr Ch228 (k := (b + 2)) (d := 29) hk2 rfl (by decide +kernel)).trans ((ri_ne wh226 (.inl (cw_kne (k := (b + 2)) (d := 29) (k' := 53) (d' := 0) hk2 rfl (by decide)))).trans (ri_ne wh216 (.inl (cw_kne (k := (b + 2)) (d := 29) (k' := 53) (d' := 0) hk2 rfl (by decide))))))))⟩⟩))
            · refine ex_ic oq_X0_readJoint_126 (m := 1) (by decide) (fun x229 hx229 => ?_)
              refine ex_go oq_X0_readJoint_127 (t := 131) rfl rfl ?_
              refine ex_pfb oq_X0_readJoint_131 Th216 (k := 53) (d := 0) rfl rfl rfl (by omega) (by omega) (fun h230 Th230 wh230 => ?_)
              have Fh230 : cw_Fr cw_Ds cw_sh kk_X0_readJoint.2.2.2.2.2.1 h0 h230 := cw_Fr_tr Fh216 (cw_Fr_wrf wh230 (k := 53) (d := 0) rfl rfl (by decide +kernel))
              have eh230_53_2 : ri_at h230 53 2 = ((zbi (zrk (zsk k w)) st).length : Int) := (ri_ne wh230 (.inr (by decide))).trans eh216_53_2
              clear eh216_53_2
              have eh230_53_3 : ri_at h230 53 3 = oc := (ri_ne wh230 (.inr (by decide))).trans eh216_53_3
              clear eh216_53_3
              have eh230_b_2 : ri_at h230 b 2 = ((cl ++ (zbp (zrk (zsk k w)) st).map zsi).length : Int) := (ri_ne wh230 (.inl (cw_kne (k := b) (d := 4) (k' := 53) (d' := 0) hb4 rfl (by decide)))).trans eh216_b_2
              clear eh216_b_2
              have eh230_b_3 : ri_at h230 b 3 = kn := (ri_ne wh230 (.inl (cw_kne (k := b) (d := 4) (k' := 53) (d' := 0) hb4 rfl (by decide)))).trans eh216_b_3
              clear eh216_b_3
              have eh230_51_4 : ri_at h230 51 4 = kc := (ri_ne wh230 (.inl (by decide))).trans eh216_51_4
              clear eh216_51_4
              have eh230_51_6 : ri_at h230 51 6 = vc := (ri_ne wh230 (.inl (by decide))).trans eh216_51_6
              clear eh216_51_6
              have eh230_53_4 : ri_at h230 53 4 = (nm : Int) := (ri_ne wh230 (.inr (by decide))).trans eh216_53_4
              clear eh216_53_4
              have Rh230 := zrow_eq Rh216 (fun i => ri_ne wh230 (.inl (by decide)))
              refine ex_al oq_X0_readJoint_134 gL209_0 ?_
              refine ex_il oq_X0_readJoint_135 gL209_1 ?_
              refine ex_cv oq_X0_readJoint_136 (by decide) Th230 (k := 53) (d := 0) (as := [cv_i x204]) (stk := []) rfl rfl rfl rfl rfl rfl ⟨rfl, rfl⟩ (R := fun o => ∃ (x : Int32) (hb : cv_H), o = (some (cv_i x), hb) ∧ cw_T G hb ∧ cw_Fr cw_Ds cw_sh kk_X0_holdKnot.2.2.2.2.2.1 h230 hb) (ct_holdKnot hb4 (hP7 _ Fh230) (a := (zsk k w)) (st := (zbi (zrk (zsk k w)) st)) Th230 Rh230 eh230_53_2 eh230_b_3 (by omega) (by omega) has (fun x hb b1 b2 b3 => ⟨x, hb, rfl, b1, b2⟩)) (fun o ho9 => ?_)
              obtain ⟨x231, h232, rfl, Th232, Ch232⟩ := ho9
              show cw_X _ _ _ _ _ [cv_i x231] h232
              have Fh232 : cw_Fr cw_Ds cw_sh kk_X0_readJoint.2.2.2.2.2.1 h0 h232 := cw_Fr_tr Fh230 (cw_Fr_mono (by decide +kernel) Ch232)
              have eh232_53_3 : ri_at h232 53 3 = oc := (ri_frf Ch232 (k := 53) (d := 0) rfl rfl (by decide +kernel)).trans eh230_53_3
              clear eh230_53_3
              have eh232_b_2 : ri_at h232 b 2 = ((cl ++ (zbp (zrk (zsk k w)) st).map zsi).length : Int) := (ri_frf Ch232 (k := b) (d := 4) hb4 rfl (by decide +kernel)).trans eh230_b_2
              clear eh230_b_2
              have eh232_51_4 : ri_at h232 51 4 = kc := (ri_frf Ch232 (k := 51) (d := 6) rfl rfl (by decide +kernel)).trans eh230_51_4
              clear eh230_51_4
              have eh232_51_6 : ri_at h232 51 6 = vc := (ri_frf Ch232 (k := 51) (d := 6) rfl rfl (by decide +kernel)).trans eh230_51_6
              clear eh230_51_6
              have eh232_53_4 : ri_at h232 53 4 = (nm : Int) := (ri_frf Ch232 (k := 53) (d := 0) rfl rfl (by decide +kernel)).trans eh230_53_4
              clear eh230_53_4
              exact ex_reti oq_X0_readJoint_139 rfl (hQ x231 h232 Th232 Fh232 (.inr ⟨eh232_53_4, .inr ⟨by omega, hs0, (by rw [if_neg (show ¬ zrk (zsk k w) = 4 by omega)]; exact eh232_b_2), (by rw [if_neg (show ¬ zrk (zsk k w) = 4 by omega)]; exact zNm_eq mh212 (fun i => ((ri_frr Ch232 (k := (b + 2)) (d := 29) hk2 rfl (by decide +kernel)).trans ((ri_ne wh230 (.inl (cw_kne (k := (b + 2)) (d := 29) (k' := 53) (d' := 0) hk2 rfl (by decide)))).trans (ri_ne wh216 (.inl (cw_kne (k := (b + 2)) (d := 29) (k' := 53) (d' := 0) hk2 rfl (by decide))))))))⟩⟩))
        · exfalso; omega
      · have hrk : x208.toInt = zrk (zsk k w) := by rw [qx208, has]; exact hrz
        have hr1 := zrk_p (a := (zsk k w)) (by omega)
        refine ex_ic oq_X0_readJoint_73 (m := 5) (by decide) (fun x233 hx233 => ?_)
        refine ex_go oq_X0_readJoint_74 (t := 78) rfl rfl ?_
        have hlh234 : (if x233.toInt = 0 then 1 else x233.toInt) = 5 := by split <;> omega
        refine ex_cv oq_X0_readJoint_78 (by decide) hT (k := 53) (d := 0) (as := [cv_i x233]) (stk := []) rfl rfl rfl rfl rfl rfl ⟨rfl, rfl⟩ (R := fun o => ∃ hb : cv_H, o = (none, hb) ∧ cw_T G hb ∧ cw_Fr cw_Ds cw_sh kk_X0_release.2.2.2.2.2.1 h0 hb ∧ zrow hb 54 ((zbi 5 st).map zsi) ∧ ri_at hb 53 2 = (zbi 5 st).length ∧ zNm hb (b + 2) 0 (cl ++ (zbp 5 st).map zsi) ∧ ri_at hb b 2 = (cl ++ (zbp 5 st).map zsi).length) (ct_releaseD hb4 hk2 (hP7 _ Fh0) (hP1 _ Fh0) (R := x233) (kn := kn) (st := st) (cl := cl) hT hk64 (by omega) ho hrw hhc hcc hco (by omega) (zNm_eq hcl (fun i => rfl)) (fun hb b1 b2 b3 b4 b5 b6 b7 b8 => by rw [hlh234] at b3 b4 b7 b8; exact ⟨hb, rfl, b1, b2, b3, b4, b7, b8⟩)) (fun o ho9 => ?_)
        obtain ⟨h234, rfl, Th234, Ch234, Rh234, ch234, mh234, nh234⟩ := ho9
        show cw_X _ _ _ _ _ [] h234
        have Fh234 : cw_Fr cw_Ds cw_sh kk_X0_readJoint.2.2.2.2.2.1 h0 h234 := cw_Fr_tr Fh0 (cw_Fr_mono (by decide +kernel) Ch234)
        have eh234_53_3 : ri_at h234 53 3 = oc := (ri_frf Ch234 (k := 53) (d := 0) rfl rfl (by decide +kernel)).trans hop
        have eh234_b_3 : ri_at h234 b 3 = kn := (ri_frf Ch234 (k := b) (d := 4) hb4 rfl (by decide +kernel)).trans hkn
        have eh234_51_4 : ri_at h234 51 4 = kc := (ri_frf Ch234 (k := 51) (d := 6) rfl rfl (by decide +kernel)).trans hk
        have eh234_51_6 : ri_at h234 51 6 = vc := (ri_frf Ch234 (k := 51) (d := 6) rfl rfl (by decide +kernel)).trans hv
        have eh234_53_4 : ri_at h234 53 4 = (nm : Int) := (ri_frf Ch234 (k := 53) (d := 0) rfl rfl (by decide +kernel)).trans hnm
        have hoh234 : zok (zbi 5 st) := zbi_ok ho
        have hzh234 := zc_len hoh234
        have hcsh234 : zc0 (zbi 5 st) = zc0 st := zbi_c0 (by omega)
        have hlnh234 : (zbi 5 st).length ≤ st.length := zbi_len
        refine ex_il oq_X0_readJoint_81 gL209_2 ?_
        refine ex_ic oq_X0_readJoint_82 (m := 4) (by decide) (fun x235 hx235 => ?_)
        refine ex_if oq_X0_readJoint_83 (t := 106) rfl rfl (fun (c236 : ¬ x208.toInt = x235.toInt) => ?_) (fun (c236 : ¬ (¬ x208.toInt = x235.toInt)) => ?_)
        · exfalso; omega
        · cases hz5 : zbi 5 st with
          | nil =>
            have hlz : (zbi 5 st).length = 0 := by rw [hz5]; rfl
            refine ex_al oq_X0_readJoint_86 gL209_0 ?_
            obtain ⟨x237, ax237, rx237, lx237, ux237⟩ := ri_fld (k := 53) (d := 0) (f := 2) Th234 rfl rfl rfl
            try dsimp only at lx237 ux237
            refine ex_gf oq_X0_readJoint_87 Th234 (k := 53) (d := 0) rfl rfl ax237 ?_
            clear lx237 ux237
            have rx237 := (rx237.symm.trans ch234 : x237.toInt = ((zbi 5 st).length : Int))
            refine ex_if0 oq_X0_readJoint_90 (t := 106) rfl rfl (fun (c238 : x237.toInt ≤ 0) => ?_) (fun (c238 : ¬ (x237.toInt ≤ 0)) => ?_)
            · refine ex_al oq_X0_readJoint_106 gL209_0 ?_
              refine ex_ic oq_X0_readJoint_107 (m := 1) (by decide) (fun x239 hx239 => ?_)
              refine ex_pfb oq_X0_readJoint_108 Th234 (k := 53) (d := 0) rfl rfl rfl (by omega) (by omega) (fun h240 Th240 wh240 => ?_)
              have Fh240 : cw_Fr cw_Ds cw_sh kk_X0_readJoint.2.2.2.2.2.1 h0 h240 := cw_Fr_tr Fh234 (cw_Fr_wrf wh240 (k := 53) (d := 0) rfl rfl (by decide +kernel))
              have eh240_53_2 : ri_at h240 53 2 = ((zbi 5 st).length : Int) := (ri_ne wh240 (.inr (by decide))).trans ch234
              have eh240_53_3 : ri_at h240 53 3 = oc := (ri_ne wh240 (.inr (by decide))).trans eh234_53_3
              clear eh234_53_3
              have eh240_b_2 : ri_at h240 b 2 = ((cl ++ (zbp 5 st).map zsi).length : Int) := (ri_ne wh240 (.inl (cw_kne (k := b) (d := 4) (k' := 53) (d' := 0) hb4 rfl (by decide)))).trans nh234
              have eh240_b_3 : ri_at h240 b 3 = kn := (ri_ne wh240 (.inl (cw_kne (k := b) (d := 4) (k' := 53) (d' := 0) hb4 rfl (by decide)))).trans eh234_b_3
              clear eh234_b_3
              have eh240_51_4 : ri_at h240 51 4 = kc := (ri_ne wh240 (.inl (by decide))).trans eh234_51_4
              clear eh234_51_4
              have eh240_51_6 : ri_at h240 51 6 = vc := (ri_ne wh240 (.inl (by decide))).trans eh234_51_6
              clear eh234_51_6
              have eh240_53_4 : ri_at h240 53 4 = (nm : Int) := (ri_ne wh240 (.inr (by decide))).trans eh234_53_4
              clear eh234_53_4
              have Rh240 := zrow_eq Rh234 (fun i => ri_ne wh240 (.inl (by decide)))
              refine ex_al oq_X0_readJoint_111 gL209_0 ?_
              refine ex_il oq_X0_readJoint_112 gL209_1 ?_
              refine ex_si oq_X0_readJoint_113 (m := 20001) (by decide) (fun x241 hx241 => ?_)
              refine ex_if oq_X0_readJoint_116 (t := 126) rfl rfl (fun (c242 : x204.toInt = x241.toInt) => ?_) (fun (c242 : ¬ (x204.toInt = x241.toInt)) => ?_)
              · refine ex_ic oq_X0_readJoint_126 (m := 1) (by decide) (fun x243 hx243 => ?_)
                refine ex_go oq_X0_readJoint_127 (t := 131) rfl rfl ?_
                refine ex_pfb oq_X0_readJoint_131 Th240 (k := 53) (d := 0) rfl rfl rfl (by omega) (by omega) (fun h244 Th244 wh244 => ?_)
                have Fh244 : cw_Fr cw_Ds cw_sh kk_X0_readJoint.2.2.2.2.2.1 h0 h244 := cw_Fr_tr Fh240 (cw_Fr_wrf wh244 (k := 53) (d := 0) rfl rfl (by decide +kernel))
                have eh244_53_2 : ri_at h244 53 2 = ((zbi 5 st).length : Int) := (ri_ne wh244 (.inr (by decide))).trans eh240_53_2
                clear eh240_53_2
                have eh244_53_3 : ri_at h244 53 3 = oc := (ri_ne wh244 (.inr (by decide))).trans eh240_53_3
                clear eh240_53_3
                have eh244_b_2 : ri_at h244 b 2 = ((cl ++ (zbp 5 st).map zsi).length : Int) := (ri_ne wh244 (.inl (cw_kne (k := b) (d := 4) (k' := 53) (d' := 0) hb4 rfl (by decide)))).trans eh240_b_2
                clear eh240_b_2
                have eh244_b_3 : ri_at h244 b 3 = kn := (ri_ne wh244 (.inl (cw_kne (k := b) (d := 4) (k' := 53) (d' := 0) hb4 rfl (by decide)))).trans eh240_b_3
                clear eh240_b_3
                have eh244_51_4 : ri_at h244 51 4 = kc := (ri_ne wh244 (.inl (by decide))).trans eh240_51_4
                clear eh240_51_4
                have eh244_51_6 : ri_at h244 51 6 = vc := (ri_ne wh244 (.inl (by decide))).trans eh240_51_6
                clear eh240_51_6
                have eh244_53_4 : ri_at h244 53 4 = (nm : Int) := (ri_ne wh244 (.inr (by decide))).trans eh240_53_4
                clear eh240_53_4
                have Rh244 := zrow_eq Rh240 (fun i => ri_ne wh244 (.inl (by decide)))
                refine ex_al oq_X0_readJoint_134 gL209_0 ?_
                refine ex_il oq_X0_readJoint_135 gL209_1 ?_
                refine ex_cv oq_X0_readJoint_136 (by decide) Th244 (k := 53) (d := 0) (as := [cv_i x204]) (stk := []) rfl rfl rfl rfl rfl rfl ⟨rfl, rfl⟩ (R := fun o => ∃ (x : Int32) (hb : cv_H), o = (some (cv_i x), hb) ∧ cw_T G hb ∧ cw_Fr cw_Ds cw_sh kk_X0_holdKnot.2.2.2.2.2.1 h244 hb) (ct_holdKnot hb4 (hP7 _ Fh244) (a := (zsk k w)) (st := (zbi 5 st)) Th244 Rh244 eh244_53_2 eh244_b_3 (by omega) (by omega) has (fun x hb b1 b2 b3 => ⟨x, hb, rfl, b1, b2⟩)) (fun o ho9 => ?_)
                obtain ⟨x245, h246, rfl, Th246, Ch246⟩ := ho9
                show cw_X _ _ _ _ _ [cv_i x245] h246
                have Fh246 : cw_Fr cw_Ds cw_sh kk_X0_readJoint.2.2.2.2.2.1 h0 h246 := cw_Fr_tr Fh244 (cw_Fr_mono (by decide +kernel) Ch246)
                have eh246_53_3 : ri_at h246 53 3 = oc := (ri_frf Ch246 (k := 53) (d := 0) rfl rfl (by decide +kernel)).trans eh244_53_3
                clear eh244_53_3
                have eh246_b_2 : ri_at h246 b 2 = ((cl ++ (zbp 5 st).map zsi).length : Int) := (ri_frf Ch246 (k := b) (d := 4) hb4 rfl (by decide +kernel)).trans eh244_b_2
                clear eh244_b_2
                have eh246_51_4 : ri_at h246 51 4 = kc := (ri_frf Ch246 (k := 51) (d := 6) rfl rfl (by decide +kernel)).trans eh244_51_4
                clear eh244_51_4
                have eh246_51_6 : ri_at h246 51 6 = vc := (ri_frf Ch246 (k := 51) (d := 6) rfl rfl (by decide +kernel)).trans eh244_51_6
                clear eh244_51_6
                have eh246_53_4 : ri_at h246 53 4 = (nm : Int) := (ri_frf Ch246 (k := 53) (d := 0) rfl rfl (by decide +kernel)).trans eh244_53_4
                clear eh244_53_4
                exact ex_reti oq_X0_readJoint_139 rfl (hQ x245 h246 Th246 Fh246 (.inr ⟨eh246_53_4, .inr ⟨by omega, hs0, (by rw [if_pos (show zrk (zsk k w) = 4 by omega)]; exact eh246_b_2), (by rw [if_pos (show zrk (zsk k w) = 4 by omega)]; exact zNm_eq mh234 (fun i => ((ri_frr Ch246 (k := (b + 2)) (d := 29) hk2 rfl (by decide +kernel)).trans ((ri_ne wh244 (.inl (cw_kne (k := (b + 2)) (d := 29) (k' := 53) (d' := 0) hk2 rfl (by decide)))).trans (ri_ne wh240 (.inl (cw_kne (k := (b + 2)) (d := 29) (k' := 53) (d' := 0) hk2 rfl (by decide))))))))⟩⟩))
              · refine ex_il oq_X0_readJoint_119 gL209_1 ?_
                refine ex_si oq_X0_readJoint_120 (m := 20000) (by decide) (fun x247 hx247 => ?_)
                refine ex_if oq_X0_readJoint_123 (t := 130) rfl rfl (fun (c248 : ¬ x204.toInt = x247.toInt) => ?_) (fun (c248 : ¬ (¬ x204.toInt = x247.toInt)) => ?_)
                · refine ex_ic oq_X0_readJoint_130 (m := 0) (by decide) (fun x249 hx249 => ?_)
                  refine ex_pfb oq_X0_readJoint_131 Th240 (k := 53) (d := 0) rfl rfl rfl (by omega) (by omega) (fun h250 Th250 wh250 => ?_)
                  have Fh250 : cw_Fr cw_Ds cw_sh kk_X0_readJoint.2.2.2.2.2.1 h0 h250 := cw_Fr_tr Fh240 (cw_Fr_wrf wh250 (k := 53) (d := 0) rfl rfl (by decide +kernel))
                  have eh250_53_2 : ri_at h250 53 2 = ((zbi 5 st).length : Int) := (ri_ne wh250 (.inr (by decide))).trans eh240_53_2
                  clear eh240_53_2
                  have eh250_53_3 : ri_at h250 53 3 = oc := (ri_ne wh250 (.inr (by decide))).trans eh240_53_3
                  clear eh240_53_3
                  have eh250_b_2 : ri_at h250 b 2 = ((cl ++ (zbp 5 st).map zsi).length : Int) := (ri_ne wh250 (.inl (cw_kne (k := b) (d := 4) (k' := 53) (d' := 0) hb4 rfl (by decide)))).trans eh240_b_2
                  clear eh240_b_2
                  have eh250_b_3 : ri_at h250 b 3 = kn := (ri_ne wh250 (.inl (cw_kne (k := b) (d := 4) (k' := 53) (d' := 0) hb4 rfl (by decide)))).trans eh240_b_3
                  clear eh240_b_3
                  have eh250_51_4 : ri_at h250 51 4 = kc := (ri_ne wh250 (.inl (by decide))).trans eh240_51_4
                  clear eh240_51_4
                  have eh250_51_6 : ri_at h250 51 6 = vc := (ri_ne wh250 (.inl (by decide))).trans eh240_51_6
                  clear eh240_51_6
                  have eh250_53_4 : ri_at h250 53 4 = (nm : Int) := (ri_ne wh250 (.inr (by decide))).trans eh240_53_4
                  clear eh240_53_4
                  have Rh250 := zrow_eq Rh240 (fun i => ri_ne wh250 (.inl (by decide)))
                  refine ex_al oq_X0_readJoint_134 gL209_0 ?_
                  refine ex_il oq_X0_readJoint_135 gL209_1 ?_
                  refine ex_cv oq_X0_readJoint_136 (by decide) Th250 (k := 53) (d := 0) (as := [cv_i x204]) (stk := []) rfl rfl rfl rfl rfl rfl ⟨rfl, rfl⟩ (R := fun o => ∃ (x : Int32) (hb : cv_H), o = (some (cv_i x), hb) ∧ cw_T G hb ∧ cw_Fr cw_Ds cw_sh kk_X0_holdKnot.2.2.2.2.2.1 h250 hb) (ct_holdKnot hb4 (hP7 _ Fh250) (a := (zsk k w)) (st := (zbi 5 st)) Th250 Rh250 eh250_53_2 eh250_b_3 (by omega) (by omega) has (fun x hb b1 b2 b3 => ⟨x, hb, rfl, b1, b2⟩)) (fun o ho9 => ?_)
                  obtain ⟨x251, h252, rfl, Th252, Ch252⟩ := ho9
                  show cw_X _ _ _ _ _ [cv_i x251] h252
                  have Fh252 : cw_Fr cw_Ds cw_sh kk_X0_readJoint.2.2.2.2.2.1 h0 h252 := cw_Fr_tr Fh250 (cw_Fr_mono (by decide +kernel) Ch252)
                  have eh252_53_3 : ri_at h252 53 3 = oc := (ri_frf Ch252 (k := 53) (d := 0) rfl rfl (by decide +kernel)).trans eh250_53_3
                  clear eh250_53_3
                  have eh252_b_2 : ri_at h252 b 2 = ((cl ++ (zbp 5 st).map zsi).length : Int) := (ri_frf Ch252 (k := b) (d := 4) hb4 rfl (by decide +kernel)).trans eh250_b_2
                  clear eh250_b_2
                  have eh252_51_4 : ri_at h252 51 4 = kc := (ri_frf Ch252 (k := 51) (d := 6) rfl rfl (by decide +kernel)).trans eh250_51_4
                  clear eh250_51_4
                  have eh252_51_6 : ri_at h252 51 6 = vc := (ri_frf Ch252 (k := 51) (d := 6) rfl rfl (by decide +kernel)).trans eh250_51_6
                  clear eh250_51_6
                  have eh252_53_4 : ri_at h252 53 4 = (nm : Int) := (ri_frf Ch252 (k := 53) (d := 0) rfl rfl (by decide +kernel)).trans eh250_53_4
                  clear eh250_53_4
                  exact ex_reti oq_X0_readJoint_139 rfl (hQ x251 h252 Th252 Fh252 (.inr ⟨eh252_53_4, .inr ⟨by omega, hs0, (by rw [if_pos (show zrk (zsk k w) = 4 by omega)]; exact eh252_b_2), (by rw [if_pos (show zrk (zsk k w) = 4 by omega)]; exact zNm_eq mh234 (fun i => ((ri_frr Ch252 (k := (b + 2)) (d := 29) hk2 rfl (by decide +kernel)).trans ((ri_ne wh250 (.inl (cw_kne (k := (b + 2)) (d := 29) (k' := 53) (d' := 0) hk2 rfl (by decide)))).trans (ri_ne wh240 (.inl (cw_kne (k := (b + 2)) (d := 29) (k' := 53) (d' := 0) hk2 rfl (by decide))))))))⟩⟩))
                · refine ex_ic oq_X0_readJoint_126 (m := 1) (by decide) (fun x253 hx253 => ?_)
                  refine ex_go oq_X0_readJoint_127 (t := 131) rfl rfl ?_
                  refine ex_pfb oq_X0_readJoint_131 Th240 (k := 53) (d := 0) rfl rfl rfl (by omega) (by omega) (fun h254 Th254 wh254 => ?_)
                  have Fh254 : cw_Fr cw_Ds cw_sh kk_X0_readJoint.2.2.2.2.2.1 h0 h254 := cw_Fr_tr Fh240 (cw_Fr_wrf wh254 (k := 53) (d := 0) rfl rfl (by decide +kernel))
                  have eh254_53_2 : ri_at h254 53 2 = ((zbi 5 st).length : Int) := (ri_ne wh254 (.inr (by decide))).trans eh240_53_2
                  clear eh240_53_2
                  have eh254_53_3 : ri_at h254 53 3 = oc := (ri_ne wh254 (.inr (by decide))).trans eh240_53_3
                  clear eh240_53_3
                  have eh254_b_2 : ri_at h254 b 2 = ((cl ++ (zbp 5 st).map zsi).length : Int) := (ri_ne wh254 (.inl (cw_kne (k := b) (d := 4) (k' := 53) (d' := 0) hb4 rfl (by decide)))).trans eh240_b_2
                  clear eh240_b_2
                  have eh254_b_3 : ri_at h254 b 3 = kn := (ri_ne wh254 (.inl (cw_kne (k := b) (d := 4) (k' := 53) (d' := 0) hb4 rfl (by decide)))).trans eh240_b_3
                  clear eh240_b_3
                  have eh254_51_4 : ri_at h254 51 4 = kc := (ri_ne wh254 (.inl (by decide))).trans eh240_51_4
                  clear eh240_51_4
                  have eh254_51_6 : ri_at h254 51 6 = vc := (ri_ne wh254 (.inl (by decide))).trans eh240_51_6
                  clear eh240_51_6
                  have eh254_53_4 : ri_at h254 53 4 = (nm : Int) := (ri_ne wh254 (.inr (by decide))).trans eh240_53_4
                  clear eh240_53_4
                  have Rh254 := zrow_eq Rh240 (fun i => ri_ne wh254 (.inl (by decide)))
                  refine ex_al oq_X0_readJoint_134 gL209_0 ?_
                  refine ex_il oq_X0_readJoint_135 gL209_1 ?_
                  refine ex_cv oq_X0_readJoint_136 (by decide) Th254 (k := 53) (d := 0) (as := [cv_i x204]) (stk := []) rfl rfl rfl rfl rfl rfl ⟨rfl, rfl⟩ (R := fun o => ∃ (x : Int32) (hb : cv_H), o = (some (cv_i x), hb) ∧ cw_T G hb ∧ cw_Fr cw_Ds cw_sh kk_X0_holdKnot.2.2.2.2.2.1 h254 hb) (ct_holdKnot hb4 (hP7 _ Fh254) (a := (zsk k w)) (st := (zbi 5 st)) Th254 Rh254 eh254_53_2 eh254_b_3 (by omega) (by omega) has (fun x hb b1 b2 b3 => ⟨x, hb, rfl, b1, b2⟩)) (fun o ho9 => ?_)
                  obtain ⟨x255, h256, rfl, Th256, Ch256⟩ := ho9
                  show cw_X _ _ _ _ _ [cv_i x255] h256
                  have Fh256 : cw_Fr cw_Ds cw_sh kk_X0_readJoint.2.2.2.2.2.1 h0 h256 := cw_Fr_tr Fh254 (cw_Fr_mono (by decide +kernel) Ch256)
                  have eh256_53_3 : ri_at h256 53 3 = oc := (ri_frf Ch256 (k := 53) (d := 0) rfl rfl (by decide +kernel)).trans eh254_53_3
                  clear eh254_53_3
                  have eh256_b_2 : ri_at h256 b 2 = ((cl ++ (zbp 5 st).map zsi).length : Int) := (ri_frf Ch256 (k := b) (d := 4) hb4 rfl (by decide +kernel)).trans eh254_b_2
                  clear eh254_b_2
                  have eh256_51_4 : ri_at h256 51 4 = kc := (ri_frf Ch256 (k := 51) (d := 6) rfl rfl (by decide +kernel)).trans eh254_51_4
                  clear eh254_51_4
                  have eh256_51_6 : ri_at h256 51 6 = vc := (ri_frf Ch256 (k := 51) (d := 6) rfl rfl (by decide +kernel)).trans eh254_51_6
                  clear eh254_51_6
                  have eh256_53_4 : ri_at h256 53 4 = (nm : Int) := (ri_frf Ch256 (k := 53) (d := 0) rfl rfl (by decide +kernel)).trans eh254_53_4
                  clear eh254_53_4
                  exact ex_reti oq_X0_readJoint_139 rfl (hQ x255 h256 Th256 Fh256 (.inr ⟨eh256_53_4, .inr ⟨by omega, hs0, (by rw [if_pos (show zrk (zsk k w) = 4 by omega)]; exact eh256_b_2), (by rw [if_pos (show zrk (zsk k w) = 4 by omega)]; exact zNm_eq mh234 (fun i => ((ri_frr Ch256 (k := (b + 2)) (d := 29) hk2 rfl (by decide +kernel)).trans ((ri_ne wh254 (.inl (cw_kne (k := (b + 2)) (d := 29) (k' := 53) (d' := 0) hk2 rfl (by decide)))).trans (ri_ne wh240 (.inl (cw_kne (k := (b + 2)) (d := 29) (k' := 53) (d' := 0) hk2 rfl (by decide))))))))⟩⟩))
            · exfalso; omega
          | cons x5 r5 =>
            have hlz : (zbi 5 st).length = r5.length + 1 := by rw [hz5]; rfl
            have Rz : zrow h234 54 ((x5 :: r5).map zsi) := by rw [← hz5]; exact Rh234
            refine ex_al oq_X0_readJoint_86 gL209_0 ?_
            obtain ⟨x257, ax257, rx257, lx257, ux257⟩ := ri_fld (k := 53) (d := 0) (f := 2) Th234 rfl rfl rfl
            try dsimp only at lx257 ux257
            refine ex_gf oq_X0_readJoint_87 Th234 (k := 53) (d := 0) rfl rfl ax257 ?_
            clear lx257 ux257
            have rx257 := (rx257.symm.trans ch234 : x257.toInt = ((zbi 5 st).length : Int))
            refine ex_if0 oq_X0_readJoint_90 (t := 106) rfl rfl (fun (c258 : x257.toInt ≤ 0) => ?_) (fun (c258 : ¬ (x257.toInt ≤ 0)) => ?_)
            · exfalso; omega
            · refine ex_al oq_X0_readJoint_93 gL209_0 ?_
              refine ex_cv oq_X0_readJoint_94 (by decide) Th234 (k := 53) (d := 0) (as := []) (stk := []) rfl rfl rfl rfl rfl rfl ⟨rfl, rfl⟩ (R := fun o => ∃ x : Int32, o = (some (cv_i x), h234) ∧ x.toInt = zsi x5) (ct_latest (a := x5) (st := r5) Th234 Rz (by omega) (by omega) (fun x q => ⟨x, rfl, q⟩)) (fun o ho9 => ?_)
              obtain ⟨x259, rfl, qx259⟩ := ho9
              show cw_X _ _ _ _ _ [cv_i x259] h234
              refine ex_cs oq_X0_readJoint_97 (by decide) (as := [cv_i x259]) (stk := []) rfl rfl rfl ⟨rfl, rfl⟩ (R := fun o => ∃ x : Int32, o = (some (cv_i x), h234) ∧ x.toInt = zrn x259.toInt) (ct_rankOf x259 (fun x q => ⟨x, rfl, q⟩)) (fun o ho9 => ?_)
              obtain ⟨x260, rfl, qx260⟩ := ho9
              show cw_X _ _ _ _ _ [cv_i x260] h234
              refine ex_ic oq_X0_readJoint_100 (m := 4) (by decide) (fun x261 hx261 => ?_)
              refine ex_if oq_X0_readJoint_101 (t := 106) rfl rfl (fun (c262 : ¬ x260.toInt = x261.toInt) => ?_) (fun (c262 : ¬ (¬ x260.toInt = x261.toInt)) => ?_)
              · refine ex_al oq_X0_readJoint_106 gL209_0 ?_
                refine ex_ic oq_X0_readJoint_107 (m := 1) (by decide) (fun x263 hx263 => ?_)
                refine ex_pfb oq_X0_readJoint_108 Th234 (k := 53) (d := 0) rfl rfl rfl (by omega) (by omega) (fun h264 Th264 wh264 => ?_)
                have Fh264 : cw_Fr cw_Ds cw_sh kk_X0_readJoint.2.2.2.2.2.1 h0 h264 := cw_Fr_tr Fh234 (cw_Fr_wrf wh264 (k := 53) (d := 0) rfl rfl (by decide +kernel))
                have eh264_53_2 : ri_at h264 53 2 = ((zbi 5 st).length : Int) := (ri_ne wh264 (.inr (by decide))).trans ch234
                have eh264_53_3 : ri_at h264 53 3 = oc := (ri_ne wh264 (.inr (by decide))).trans eh234_53_3
                clear eh234_53_3
                have eh264_b_2 : ri_at h264 b 2 = ((cl ++ (zbp 5 st).map zsi).length : Int) := (ri_ne wh264 (.inl (cw_kne (k := b) (d := 4) (k' := 53) (d' := 0) hb4 rfl (by decide)))).trans nh234
                have eh264_b_3 : ri_at h264 b 3 = kn := (ri_ne wh264 (.inl (cw_kne (k := b) (d := 4) (k' := 53) (d' := 0) hb4 rfl (by decide)))).trans eh234_b_3
                clear eh234_b_3
                have eh264_51_4 : ri_at h264 51 4 = kc := (ri_ne wh264 (.inl (by decide))).trans eh234_51_4
                clear eh234_51_4
                have eh264_51_6 : ri_at h264 51 6 = vc := (ri_ne wh264 (.inl (by decide))).trans eh234_51_6
                clear eh234_51_6
                have eh264_53_4 : ri_at h264 53 4 = (nm : Int) := (ri_ne wh264 (.inr (by decide))).trans eh234_53_4
                clear eh234_53_4
                have Rh264 := zrow_eq Rh234 (fun i => ri_ne wh264 (.inl (by decide)))
                refine ex_al oq_X0_readJoint_111 gL209_0 ?_
                refine ex_il oq_X0_readJoint_112 gL209_1 ?_
                refine ex_si oq_X0_readJoint_113 (m := 20001) (by decide) (fun x265 hx265 => ?_)
                refine ex_if oq_X0_readJoint_116 (t := 126) rfl rfl (fun (c266 : x204.toInt = x265.toInt) => ?_) (fun (c266 : ¬ (x204.toInt = x265.toInt)) => ?_)
                · refine ex_ic oq_X0_readJoint_126 (m := 1) (by decide) (fun x267 hx267 => ?_)
                  refine ex_go oq_X0_readJoint_127 (t := 131) rfl rfl ?_
                  refine ex_pfb oq_X0_readJoint_131 Th264 (k := 53) (d := 0) rfl rfl rfl (by omega) (by omega) (fun h268 Th268 wh268 => ?_)
                  have Fh268 : cw_Fr cw_Ds cw_sh kk_X0_readJoint.2.2.2.2.2.1 h0 h268 := cw_Fr_tr Fh264 (cw_Fr_wrf wh268 (k := 53) (d := 0) rfl rfl (by decide +kernel))
                  have eh268_53_2 : ri_at h268 53 2 = ((zbi 5 st).length : Int) := (ri_ne wh268 (.inr (by decide))).trans eh264_53_2
                  clear eh264_53_2
                  have eh268_53_3 : ri_at h268 53 3 = oc := (ri_ne wh268 (.inr (by decide))).trans eh264_53_3
                  clear eh264_53_3
                  have eh268_b_2 : ri_at h268 b 2 = ((cl ++ (zbp 5 st).map zsi).length : Int) := (ri_ne wh268 (.inl (cw_kne (k := b) (d := 4) (k' := 53) (d' := 0) hb4 rfl (by decide)))).trans eh264_b_2
                  clear eh264_b_2
                  have eh268_b_3 : ri_at h268 b 3 = kn := (ri_ne wh268 (.inl (cw_kne (k := b) (d := 4) (k' := 53) (d' := 0) hb4 rfl (by decide)))).trans eh264_b_3
                  clear eh264_b_3
                  have eh268_51_4 : ri_at h268 51 4 = kc := (ri_ne wh268 (.inl (by decide))).trans eh264_51_4
                  clear eh264_51_4
                  have eh268_51_6 : ri_at h268 51 6 = vc := (ri_ne wh268 (.inl (by decide))).trans eh264_51_6
                  clear eh264_51_6
                  have eh268_53_4 : ri_at h268 53 4 = (nm : Int) := (ri_ne wh268 (.inr (by decide))).trans eh264_53_4
                  clear eh264_53_4
                  have Rh268 := zrow_eq Rh264 (fun i => ri_ne wh268 (.inl (by decide)))
                  refine ex_al oq_X0_readJoint_134 gL209_0 ?_
                  refine ex_il oq_X0_readJoint_135 gL209_1 ?_
                  refine ex_cv oq_X0_readJoint_136 (by decide) Th268 (k := 53) (d := 0) (as := [cv_i x204]) (stk := []) rfl rfl rfl rfl rfl rfl ⟨rfl, rfl⟩ (R := fun o => ∃ (x : Int32) (hb : cv_H), o = (some (cv_i x), hb) ∧ cw_T G hb ∧ cw_Fr cw_Ds cw_sh kk_X0_holdKnot.2.2.2.2.2.1 h268 hb) (ct_holdKnot hb4 (hP7 _ Fh268) (a := (zsk k w)) (st := (zbi 5 st)) Th268 Rh268 eh268_53_2 eh268_b_3 (by omega) (by omega) has (fun x hb b1 b2 b3 => ⟨x, hb, rfl, b1, b2⟩)) (fun o ho9 => ?_)
                  obtain ⟨x269, h270, rfl, Th270, Ch270⟩ := ho9
                  show cw_X _ _ _ _ _ [cv_i x269] h270
                  have Fh270 : cw_Fr cw_Ds cw_sh kk_X0_readJoint.2.2.2.2.2.1 h0 h270 := cw_Fr_tr Fh268 (cw_Fr_mono (by decide +kernel) Ch270)
                  have eh270_53_3 : ri_at h270 53 3 = oc := (ri_frf Ch270 (k := 53) (d := 0) rfl rfl (by decide +kernel)).trans eh268_53_3
                  clear eh268_53_3
                  have eh270_b_2 : ri_at h270 b 2 = ((cl ++ (zbp 5 st).map zsi).length : Int) := (ri_frf Ch270 (k := b) (d := 4) hb4 rfl (by decide +kernel)).trans eh268_b_2
                  clear eh268_b_2
                  have eh270_51_4 : ri_at h270 51 4 = kc := (ri_frf Ch270 (k := 51) (d := 6) rfl rfl (by decide +kernel)).trans eh268_51_4
                  clear eh268_51_4
                  have eh270_51_6 : ri_at h270 51 6 = vc := (ri_frf Ch270 (k := 51) (d := 6) rfl rfl (by decide +kernel)).trans eh268_51_6
                  clear eh268_51_6
                  have eh270_53_4 : ri_at h270 53 4 = (nm : Int) := (ri_frf Ch270 (k := 53) (d := 0) rfl rfl (by decide +kernel)).trans eh268_53_4
                  clear eh268_53_4
                  exact ex_reti oq_X0_readJoint_139 rfl (hQ x269 h270 Th270 Fh270 (.inr ⟨eh270_53_4, .inr ⟨by omega, hs0, (by rw [if_pos (show zrk (zsk k w) = 4 by omega)]; exact eh270_b_2), (by rw [if_pos (show zrk (zsk k w) = 4 by omega)]; exact zNm_eq mh234 (fun i => ((ri_frr Ch270 (k := (b + 2)) (d := 29) hk2 rfl (by decide +kernel)).trans ((ri_ne wh268 (.inl (cw_kne (k := (b + 2)) (d := 29) (k' := 53) (d' := 0) hk2 rfl (by decide)))).trans (ri_ne wh264 (.inl (cw_kne (k := (b + 2)) (d := 29) (k' := 53) (d' := 0) hk2 rfl (by decide))))))))⟩⟩))
                · refine ex_il oq_X0_readJoint_119 gL209_1 ?_
                  refine ex_si oq_X0_readJoint_120 (m := 20000) (by decide) (fun x271 hx271 => ?_)
                  refine ex_if oq_X0_readJoint_123 (t := 130) rfl rfl (fun (c272 : ¬ x204.toInt = x271.toInt) => ?_) (fun (c272 : ¬ (¬ x204.toInt = x271.toInt)) => ?_)
                  · refine ex_ic oq_X0_readJoint_130 (m := 0) (by decide) (fun x273 hx273 => ?_)
                    refine ex_pfb oq_X0_readJoint_131 Th264 (k := 53) (d := 0) rfl rfl rfl (by omega) (by omega) (fun h274 Th274 wh274 => ?_)
                    have Fh274 : cw_Fr cw_Ds cw_sh kk_X0_readJoint.2.2.2.2.2.1 h0 h274 := cw_Fr_tr Fh264 (cw_Fr_wrf wh274 (k := 53) (d := 0) rfl rfl (by decide +kernel))
                    have eh274_53_2 : ri_at h274 53 2 = ((zbi 5 st).length : Int) := (ri_ne wh274 (.inr (by decide))).trans eh264_53_2
                    clear eh264_53_2
                    have eh274_53_3 : ri_at h274 53 3 = oc := (ri_ne wh274 (.inr (by decide))).trans eh264_53_3
                    clear eh264_53_3
                    have eh274_b_2 : ri_at h274 b 2 = ((cl ++ (zbp 5 st).map zsi).length : Int) := (ri_ne wh274 (.inl (cw_kne (k := b) (d := 4) (k' := 53) (d' := 0) hb4 rfl (by decide)))).trans eh264_b_2
                    clear eh264_b_2
                    have eh274_b_3 : ri_at h274 b 3 = kn := (ri_ne wh274 (.inl (cw_kne (k := b) (d := 4) (k' := 53) (d' := 0) hb4 rfl (by decide)))).trans eh264_b_3
                    clear eh264_b_3
                    have eh274_51_4 : ri_at h274 51 4 = kc := (ri_ne wh274 (.inl (by decide))).trans eh264_51_4
                    clear eh264_51_4
                    have eh274_51_6 : ri_at h274 51 6 = vc := (ri_ne wh274 (.inl (by decide))).trans eh264_51_6
                    clear eh264_51_6
                    have eh274_53_4 : ri_at h274 53 4 = (nm : Int) := (ri_ne wh274 (.inr (by decide))).trans eh264_53_4
                    clear eh264_53_4
                    have Rh274 := zrow_eq Rh264 (fun i => ri_ne wh274 (.inl (by decide)))
                    refine ex_al oq_X0_readJoint_134 gL209_0 ?_
                    refine ex_il oq_X0_readJoint_135 gL209_1 ?_
                    refine ex_cv oq_X0_readJoint_136 (by decide) Th274 (k := 53) (d := 0) (as := [cv_i x204]) (stk := []) rfl rfl rfl rfl rfl rfl ⟨rfl, rfl⟩ (R := fun o => ∃ (x : Int32) (hb : cv_H), o = (some (cv_i x), hb) ∧ cw_T G hb ∧ cw_Fr cw_Ds cw_sh kk_X0_holdKnot.2.2.2.2.2.1 h274 hb) (ct_holdKnot hb4 (hP7 _ Fh274) (a := (zsk k w)) (st := (zbi 5 st)) Th274 Rh274 eh274_53_2 eh274_b_3 (by omega) (by omega) has (fun x hb b1 b2 b3 => ⟨x, hb, rfl, b1, b2⟩)) (fun o ho9 => ?_)
                    obtain ⟨x275, h276, rfl, Th276, Ch276⟩ := ho9
                    show cw_X _ _ _ _ _ [cv_i x275] h276
                    have Fh276 : cw_Fr cw_Ds cw_sh kk_X0_readJoint.2.2.2.2.2.1 h0 h276 := cw_Fr_tr Fh274 (cw_Fr_mono (by decide +kernel) Ch276)
                    have eh276_53_3 : ri_at h276 53 3 = oc := (ri_frf Ch276 (k := 53) (d := 0) rfl rfl (by decide +kernel)).trans eh274_53_3
                    clear eh274_53_3
                    have eh276_b_2 : ri_at h276 b 2 = ((cl ++ (zbp 5 st).map zsi).length : Int) := (ri_frf Ch276 (k := b) (d := 4) hb4 rfl (by decide +kernel)).trans eh274_b_2
                    clear eh274_b_2
                    have eh276_51_4 : ri_at h276 51 4 = kc := (ri_frf Ch276 (k := 51) (d := 6) rfl rfl (by decide +kernel)).trans eh274_51_4
                    clear eh274_51_4
                    have eh276_51_6 : ri_at h276 51 6 = vc := (ri_frf Ch276 (k := 51) (d := 6) rfl rfl (by decide +kernel)).trans eh274_51_6
                    clear eh274_51_6
                    have eh276_53_4 : ri_at h276 53 4 = (nm : Int) := (ri_frf Ch276 (k := 53) (d := 0) rfl rfl (by decide +kernel)).trans eh274_53_4
                    clear eh274_53_4
                    exact ex_reti oq_X0_readJoint_139 rfl (hQ x275 h276 Th276 Fh276 (.inr ⟨eh276_53_4, .inr ⟨by omega, hs0, (by rw [if_pos (show zrk (zsk k w) = 4 by omega)]; exact eh276_b_2), (by rw [if_pos (show zrk (zsk k w) = 4 by omega)]; exact zNm_eq mh234 (fun i => ((ri_frr Ch276 (k := (b + 2)) (d := 29) hk2 rfl (by decide +kernel)).trans ((ri_ne wh274 (.inl (cw_kne (k := (b + 2)) (d := 29) (k' := 53) (d' := 0) hk2 rfl (by decide)))).trans (ri_ne wh264 (.inl (cw_kne (k := (b + 2)) (d := 29) (k' := 53) (d' := 0) hk2 rfl (by decide))))))))⟩⟩))
                  · refine ex_ic oq_X0_readJoint_126 (m := 1) (by decide) (fun x277 hx277 => ?_)
                    refine ex_go oq_X0_readJoint_127 (t := 131) rfl rfl ?_
                    refine ex_pfb oq_X0_readJoint_131 Th264 (k := 53) (d := 0) rfl rfl rfl (by omega) (by omega) (fun h278 Th278 wh278 => ?_)
                    have Fh278 : cw_Fr cw_Ds cw_sh kk_X0_readJoint.2.2.2.2.2.1 h0 h278 := cw_Fr_tr Fh264 (cw_Fr_wrf wh278 (k := 53) (d := 0) rfl rfl (by decide +kernel))
                    have eh278_53_2 : ri_at h278 53 2 = ((zbi 5 st).length : Int) := (ri_ne wh278 (.inr (by decide))).trans eh264_53_2
                    clear eh264_53_2
                    have eh278_53_3 : ri_at h278 53 3 = oc := (ri_ne wh278 (.inr (by decide))).trans eh264_53_3
                    clear eh264_53_3
                    have eh278_b_2 : ri_at h278 b 2 = ((cl ++ (zbp 5 st).map zsi).length : Int) := (ri_ne wh278 (.inl (cw_kne (k := b) (d := 4) (k' := 53) (d' := 0) hb4 rfl (by decide)))).trans eh264_b_2
                    clear eh264_b_2
                    have eh278_b_3 : ri_at h278 b 3 = kn := (ri_ne wh278 (.inl (cw_kne (k := b) (d := 4) (k' := 53) (d' := 0) hb4 rfl (by decide)))).trans eh264_b_3
                    clear eh264_b_3
                    have eh278_51_4 : ri_at h278 51 4 = kc := (ri_ne wh278 (.inl (by decide))).trans eh264_51_4
                    clear eh264_51_4
                    have eh278_51_6 : ri_at h278 51 6 = vc := (ri_ne wh278 (.inl (by decide))).trans eh264_51_6
                    clear eh264_51_6
                    have eh278_53_4 : ri_at h278 53 4 = (nm : Int) := (ri_ne wh278 (.inr (by decide))).trans eh264_53_4
                    clear eh264_53_4
                    have Rh278 := zrow_eq Rh264 (fun i => ri_ne wh278 (.inl (by decide)))
                    refine ex_al oq_X0_readJoint_134 gL209_0 ?_
                    refine ex_il oq_X0_readJoint_135 gL209_1 ?_
                    refine ex_cv oq_X0_readJoint_136 (by decide) Th278 (k := 53) (d := 0) (as := [cv_i x204]) (stk := []) rfl rfl rfl rfl rfl rfl ⟨rfl, rfl⟩ (R := fun o => ∃ (x : Int32) (hb : cv_H), o = (some (cv_i x), hb) ∧ cw_T G hb ∧ cw_Fr cw_Ds cw_sh kk_X0_holdKnot.2.2.2.2.2.1 h278 hb) (ct_holdKnot hb4 (hP7 _ Fh278) (a := (zsk k w)) (st := (zbi 5 st)) Th278 Rh278 eh278_53_2 eh278_b_3 (by omega) (by omega) has (fun x hb b1 b2 b3 => ⟨x, hb, rfl, b1, b2⟩)) (fun o ho9 => ?_)
                    obtain ⟨x279, h280, rfl, Th280, Ch280⟩ := ho9
                    show cw_X _ _ _ _ _ [cv_i x279] h280
                    have Fh280 : cw_Fr cw_Ds cw_sh kk_X0_readJoint.2.2.2.2.2.1 h0 h280 := cw_Fr_tr Fh278 (cw_Fr_mono (by decide +kernel) Ch280)
                    have eh280_53_3 : ri_at h280 53 3 = oc := (ri_frf Ch280 (k := 53) (d := 0) rfl rfl (by decide +kernel)).trans eh278_53_3
                    clear eh278_53_3
                    have eh280_b_2 : ri_at h280 b 2 = ((cl ++ (zbp 5 st).map zsi).length : Int) := (ri_frf Ch280 (k := b) (d := 4) hb4 rfl (by decide +kernel)).trans eh278_b_2
                    clear eh278_b_2
                    have eh280_51_4 : ri_at h280 51 4 = kc := (ri_frf Ch280 (k := 51) (d := 6) rfl rfl (by decide +kernel)).trans eh278_51_4
                    clear eh278_51_4
                    have eh280_51_6 : ri_at h280 51 6 = vc := (ri_frf Ch280 (k := 51) (d := 6) rfl rfl (by decide +kernel)).trans eh278_51_6
                    clear eh278_51_6
                    have eh280_53_4 : ri_at h280 53 4 = (nm : Int) := (ri_frf Ch280 (k := 53) (d := 0) rfl rfl (by decide +kernel)).trans eh278_53_4
                    clear eh278_53_4
                    exact ex_reti oq_X0_readJoint_139 rfl (hQ x279 h280 Th280 Fh280 (.inr ⟨eh280_53_4, .inr ⟨by omega, hs0, (by rw [if_pos (show zrk (zsk k w) = 4 by omega)]; exact eh280_b_2), (by rw [if_pos (show zrk (zsk k w) = 4 by omega)]; exact zNm_eq mh234 (fun i => ((ri_frr Ch280 (k := (b + 2)) (d := 29) hk2 rfl (by decide +kernel)).trans ((ri_ne wh278 (.inl (cw_kne (k := (b + 2)) (d := 29) (k' := 53) (d' := 0) hk2 rfl (by decide)))).trans (ri_ne wh264 (.inl (cw_kne (k := (b + 2)) (d := 29) (k' := 53) (d' := 0) hk2 rfl (by decide))))))))⟩⟩))
              · refine ex_ic oq_X0_readJoint_104 (m := 1) (by decide) (fun x281 hx281 => ?_)
                exact ex_reti oq_X0_readJoint_105 rfl (hQ x281 h234 Th234 Fh234 (.inl (by omega)))
    · refine ex_ic oq_X0_readJoint_60 (m := 1) (by decide) (fun x282 hx282 => ?_)
      exact ex_reti oq_X0_readJoint_61 rfl (hQ x282 h0 hT Fh0 (.inl (by omega)))
  · refine ex_al oq_X0_readJoint_12 rfl ?_
    obtain ⟨x283, ax283, rx283, lx283, ux283⟩ := ri_fld (k := 53) (d := 0) (f := 3) hT rfl rfl rfl
    try dsimp only at lx283 ux283
    refine ex_gf oq_X0_readJoint_13 hT (k := 53) (d := 0) rfl rfl ax283 ?_
    clear lx283 ux283
    have rx283 := (rx283.symm.trans hop : x283.toInt = oc)
    refine ex_if0 oq_X0_readJoint_16 (t := 50) rfl rfl (fun (c284 : x283.toInt ≤ 0) => ?_) (fun (c284 : ¬ (x283.toInt ≤ 0)) => ?_)
    · refine ex_al oq_X0_readJoint_50 rfl ?_
      refine ex_cv oq_X0_readJoint_51 (by decide) hT (k := 53) (d := 0) (as := []) (stk := []) rfl rfl rfl rfl rfl rfl ⟨rfl, rfl⟩ (R := fun o => ∃ x : Int32, o = (some (cv_i x), h0) ∧ x.toInt = zsv k w) (ct_signOf hT hk hv hrel (fun x q => ⟨x, rfl, q⟩)) (fun o ho9 => ?_)
      obtain ⟨x285, rfl, qx285⟩ := ho9
      show cw_X _ _ _ _ _ [cv_i x285] h0
      refine ex_isA oq_X0_readJoint_54 (fun L286 gL286_1 kL286 => ?_)
      have gL286_0 : cv_get L286 0 = some (cv_r 53) := kL286 0 _ (by decide) (fun _ => rfl) rfl
      refine ex_il oq_X0_readJoint_55 gL286_1 ?_
      refine ex_ic oq_X0_readJoint_56 (m := (-1)) (by decide) (fun x287 hx287 => ?_)
      refine ex_if oq_X0_readJoint_57 (t := 62) rfl rfl (fun (c288 : ¬ x285.toInt = x287.toInt) => ?_) (fun (c288 : ¬ (¬ x285.toInt = x287.toInt)) => ?_)
      · have hs0 : ¬ (zsk k w) = 0 := by intro q; unfold zsv at qx285; rw [if_pos q] at qx285; omega
        have has : x285.toInt = zsi (zsk k w) := by rw [qx285]; unfold zsv; rw [if_neg hs0]
        have hsk := zsk_ok hrel
        have hrz := zrn_i (a := (zsk k w)) (by omega)
        rw [if_neg hs0] at hrz
        have hrb := zrk_b (k := (zsk k w))
        refine ex_il oq_X0_readJoint_62 gL286_1 ?_
        refine ex_cs oq_X0_readJoint_63 (by decide) (as := [cv_i x285]) (stk := []) rfl rfl rfl ⟨rfl, rfl⟩ (R := fun o => ∃ x : Int32, o = (some (cv_i x), h0) ∧ x.toInt = zrn x285.toInt) (ct_rankOf x285 (fun x q => ⟨x, rfl, q⟩)) (fun o ho9 => ?_)
        obtain ⟨x289, rfl, qx289⟩ := ho9
        show cw_X _ _ _ _ _ [cv_i x289] h0
        refine ex_isA oq_X0_readJoint_66 (fun L290 gL290_2 kL290 => ?_)
        have gL290_1 : cv_get L290 1 = some (cv_i x285) := kL290 1 _ (by decide) (fun _ => rfl) gL286_1
        have gL290_0 : cv_get L290 0 = some (cv_r 53) := kL290 0 _ (by decide) (fun q => absurd q (by decide)) gL286_0
        refine ex_al oq_X0_readJoint_67 gL290_0 ?_
        refine ex_il oq_X0_readJoint_68 gL290_2 ?_
        refine ex_ic oq_X0_readJoint_69 (m := 4) (by decide) (fun x291 hx291 => ?_)
        refine ex_if oq_X0_readJoint_70 (t := 77) rfl rfl (fun (c292 : ¬ x289.toInt = x291.toInt) => ?_) (fun (c292 : ¬ (¬ x289.toInt = x291.toInt)) => ?_)
        · have hrk : x289.toInt = zrk (zsk k w) := by rw [qx289, has]; exact hrz
          have hr1 := zrk_p (a := (zsk k w)) (by omega)
          refine ex_il oq_X0_readJoint_77 gL290_2 ?_
          have hlh293 : (if x289.toInt = 0 then 1 else x289.toInt) = (zrk (zsk k w)) := by split <;> omega
          refine ex_cv oq_X0_readJoint_78 (by decide) hT (k := 53) (d := 0) (as := [cv_i x289]) (stk := []) rfl rfl rfl rfl rfl rfl ⟨rfl, rfl⟩ (R := fun o => ∃ hb : cv_H, o = (none, hb) ∧ cw_T G hb ∧ cw_Fr cw_Ds cw_sh kk_X0_release.2.2.2.2.2.1 h0 hb ∧ zrow hb 54 ((zbi (zrk (zsk k w)) st).map zsi) ∧ ri_at hb 53 2 = (zbi (zrk (zsk k w)) st).length ∧ zNm hb (b + 2) 0 (cl ++ (zbp (zrk (zsk k w)) st).map zsi) ∧ ri_at hb b 2 = (cl ++ (zbp (zrk (zsk k w)) st).map zsi).length) (ct_releaseD hb4 hk2 (hP7 _ Fh0) (hP1 _ Fh0) (R := x289) (kn := kn) (st := st) (cl := cl) hT hk64 (by omega) ho hrw hhc hcc hco (by omega) (zNm_eq hcl (fun i => rfl)) (fun hb b1 b2 b3 b4 b5 b6 b7 b8 => by rw [hlh293] at b3 b4 b7 b8; exact ⟨hb, rfl, b1, b2, b3, b4, b7, b8⟩)) (fun o ho9 => ?_)
          obtain ⟨h293, rfl, Th293, Ch293, Rh293, ch293, mh293, nh293⟩ := ho9
          show cw_X _ _ _ _ _ [] h293
          have Fh293 : cw_Fr cw_Ds cw_sh kk_X0_readJoint.2.2.2.2.2.1 h0 h293 := cw_Fr_tr Fh0 (cw_Fr_mono (by decide +kernel) Ch293)
          have eh293_53_3 : ri_at h293 53 3 = oc := (ri_frf Ch293 (k := 53) (d := 0) rfl rfl (by decide +kernel)).trans hop
          have eh293_b_3 : ri_at h293 b 3 = kn := (ri_frf Ch293 (k := b) (d := 4) hb4 rfl (by decide +kernel)).trans hkn
          have eh293_51_4 : ri_at h293 51 4 = kc := (ri_frf Ch293 (k := 51) (d := 6) rfl rfl (by decide +kernel)).trans hk
          have eh293_51_6 : ri_at h293 51 6 = vc := (ri_frf Ch293 (k := 51) (d := 6) rfl rfl (by decide +kernel)).trans hv
          have eh293_53_4 : ri_at h293 53 4 = (nm : Int) := (ri_frf Ch293 (k := 53) (d := 0) rfl rfl (by decide +kernel)).trans hnm
          have hoh293 : zok (zbi (zrk (zsk k w)) st) := zbi_ok ho
          have hzh293 := zc_len hoh293
          have hcsh293 : zc0 (zbi (zrk (zsk k w)) st) = zc0 st := zbi_c0 (by omega)
          have hlnh293 : (zbi (zrk (zsk k w)) st).length ≤ st.length := zbi_len
          refine ex_il oq_X0_readJoint_81 gL290_2 ?_
          refine ex_ic oq_X0_readJoint_82 (m := 4) (by decide) (fun x294 hx294 => ?_)
          refine ex_if oq_X0_readJoint_83 (t := 106) rfl rfl (fun (c295 : ¬ x289.toInt = x294.toInt) => ?_) (fun (c295 : ¬ (¬ x289.toInt = x294.toInt)) => ?_)
          · refine ex_al oq_X0_readJoint_106 gL290_0 ?_
            refine ex_ic oq_X0_readJoint_107 (m := 1) (by decide) (fun x296 hx296 => ?_)
            refine ex_pfb oq_X0_readJoint_108 Th293 (k := 53) (d := 0) rfl rfl rfl (by omega) (by omega) (fun h297 Th297 wh297 => ?_)
            have Fh297 : cw_Fr cw_Ds cw_sh kk_X0_readJoint.2.2.2.2.2.1 h0 h297 := cw_Fr_tr Fh293 (cw_Fr_wrf wh297 (k := 53) (d := 0) rfl rfl (by decide +kernel))
            have eh297_53_2 : ri_at h297 53 2 = ((zbi (zrk (zsk k w)) st).length : Int) := (ri_ne wh297 (.inr (by decide))).trans ch293
            have eh297_53_3 : ri_at h297 53 3 = oc := (ri_ne wh297 (.inr (by decide))).trans eh293_53_3
            clear eh293_53_3
            have eh297_b_2 : ri_at h297 b 2 = ((cl ++ (zbp (zrk (zsk k w)) st).map zsi).length : Int) := (ri_ne wh297 (.inl (cw_kne (k := b) (d := 4) (k' := 53) (d' := 0) hb4 rfl (by decide)))).trans nh293
            have eh297_b_3 : ri_at h297 b 3 = kn := (ri_ne wh297 (.inl (cw_kne (k := b) (d := 4) (k' := 53) (d' := 0) hb4 rfl (by decide)))).trans eh293_b_3
            clear eh293_b_3
            have eh297_51_4 : ri_at h297 51 4 = kc := (ri_ne wh297 (.inl (by decide))).trans eh293_51_4
            clear eh293_51_4
            have eh297_51_6 : ri_at h297 51 6 = vc := (ri_ne wh297 (.inl (by decide))).trans eh293_51_6
            clear eh293_51_6
            have eh297_53_4 : ri_at h297 53 4 = (nm : Int) := (ri_ne wh297 (.inr (by decide))).trans eh293_53_4
            clear eh293_53_4
            have Rh297 := zrow_eq Rh293 (fun i => ri_ne wh297 (.inl (by decide)))
            refine ex_al oq_X0_readJoint_111 gL290_0 ?_
            refine ex_il oq_X0_readJoint_112 gL290_1 ?_
            refine ex_si oq_X0_readJoint_113 (m := 20001) (by decide) (fun x298 hx298 => ?_)
            refine ex_if oq_X0_readJoint_116 (t := 126) rfl rfl (fun (c299 : x285.toInt = x298.toInt) => ?_) (fun (c299 : ¬ (x285.toInt = x298.toInt)) => ?_)
            · refine ex_ic oq_X0_readJoint_126 (m := 1) (by decide) (fun x300 hx300 => ?_)
              refine ex_go oq_X0_readJoint_127 (t := 131) rfl rfl ?_
              refine ex_pfb oq_X0_readJoint_131 Th297 (k := 53) (d := 0) rfl rfl rfl (by omega) (by omega) (fun h301 Th301 wh301 => ?_)
              have Fh301 : cw_Fr cw_Ds cw_sh kk_X0_readJoint.2.2.2.2.2.1 h0 h301 := cw_Fr_tr Fh297 (cw_Fr_wrf wh301 (k := 53) (d := 0) rfl rfl (by decide +kernel))
              have eh301_53_2 : ri_at h301 53 2 = ((zbi (zrk (zsk k w)) st).length : Int) := (ri_ne wh301 (.inr (by decide))).trans eh297_53_2
              clear eh297_53_2
              have eh301_53_3 : ri_at h301 53 3 = oc := (ri_ne wh301 (.inr (by decide))).trans eh297_53_3
              clear eh297_53_3
              have eh301_b_2 : ri_at h301 b 2 = ((cl ++ (zbp (zrk (zsk k w)) st).map zsi).length : Int) := (ri_ne wh301 (.inl (cw_kne (k := b) (d := 4) (k' := 53) (d' := 0) hb4 rfl (by decide)))).trans eh297_b_2
              clear eh297_b_2
              have eh301_b_3 : ri_at h301 b 3 = kn := (ri_ne wh301 (.inl (cw_kne (k := b) (d := 4) (k' := 53) (d' := 0) hb4 rfl (by decide)))).trans eh297_b_3
              clear eh297_b_3
              have eh301_51_4 : ri_at h301 51 4 = kc := (ri_ne wh301 (.inl (by decide))).trans eh297_51_4
              clear eh297_51_4
              have eh301_51_6 : ri_at h301 51 6 = vc := (ri_ne wh301 (.inl (by decide))).trans eh297_51_6
              clear eh297_51_6
              have eh301_53_4 : ri_at h301 53 4 = (nm : Int) := (ri_ne wh301 (.inr (by decide))).trans eh297_53_4
              clear eh297_53_4
              have Rh301 := zrow_eq Rh297 (fun i => ri_ne wh301 (.inl (by decide)))
              refine ex_al oq_X0_readJoint_134 gL290_0 ?_
              refine ex_il oq_X0_readJoint_135 gL290_1 ?_
              refine ex_cv oq_X0_readJoint_136 (by decide) Th301 (k := 53) (d := 0) (as := [cv_i x285]) (stk := []) rfl rfl rfl rfl rfl rfl ⟨rfl, rfl⟩ (R := fun o => ∃ (x : Int32) (hb : cv_H), o = (some (cv_i x), hb) ∧ cw_T G hb ∧ cw_Fr cw_Ds cw_sh kk_X0_holdKnot.2.2.2.2.2.1 h301 hb) (ct_holdKnot hb4 (hP7 _ Fh301) (a := (zsk k w)) (st := (zbi (zrk (zsk k w)) st)) Th301 Rh301 eh301_53_2 eh301_b_3 (by omega) (by omega) has (fun x hb b1 b2 b3 => ⟨x, hb, rfl, b1, b2⟩)) (fun o ho9 => ?_)
              obtain ⟨x302, h303, rfl, Th303, Ch303⟩ := ho9
              show cw_X _ _ _ _ _ [cv_i x302] h303
              have Fh303 : cw_Fr cw_Ds cw_sh kk_X0_readJoint.2.2.2.2.2.1 h0 h303 := cw_Fr_tr Fh301 (cw_Fr_mono (by decide +kernel) Ch303)
              have eh303_53_3 : ri_at h303 53 3 = oc := (ri_frf Ch303 (k := 53) (d := 0) rfl rfl (by decide +kernel)).trans eh301_53_3
              clear eh301_53_3
              have eh303_b_2 : ri_at h303 b 2 = ((cl ++ (zbp (zrk (zsk k w)) st).map zsi).length : Int) := (ri_frf Ch303 (k := b) (d := 4) hb4 rfl (by decide +kernel)).trans eh301_b_2
              clear eh301_b_2
              have eh303_51_4 : ri_at h303 51 4 = kc := (ri_frf Ch303 (k := 51) (d := 6) rfl rfl (by decide +kernel)).trans eh301_51_4
              clear eh301_51_4
              have eh303_51_6 : ri_at h303 51 6 = vc := (ri_frf Ch303 (k := 51) (d := 6) rfl rfl (by decide +kernel)).trans eh301_51_6
              clear eh301_51_6
              have eh303_53_4 : ri_at h303 53 4 = (nm : Int) := (ri_frf Ch303 (k := 53) (d := 0) rfl rfl (by decide +kernel)).trans eh301_53_4
              clear eh301_53_4
              exact ex_reti oq_X0_readJoint_139 rfl (hQ x302 h303 Th303 Fh303 (.inr ⟨eh303_53_4, .inr ⟨by omega, hs0, (by rw [if_neg (show ¬ zrk (zsk k w) = 4 by omega)]; exact eh303_b_2), (by rw [if_neg (show ¬ zrk (zsk k w) = 4 by omega)]; exact zNm_eq mh293 (fun i => ((ri_frr Ch303 (k := (b + 2)) (d := 29) hk2 rfl (by decide +kernel)).trans ((ri_ne wh301 (.inl (cw_kne (k := (b + 2)) (d := 29) (k' := 53) (d' := 0) hk2 rfl (by decide)))).trans (ri_ne wh297 (.inl (cw_kne (k := (b + 2)) (d := 29) (k' := 53) (d' := 0) hk2 rfl (by decide))))))))⟩⟩))
            · refine ex_il oq_X0_readJoint_119 gL290_1 ?_
              refine ex_si oq_X0_readJoint_120 (m := 20000) (by decide) (fun x304 hx304 => ?_)
              refine ex_if oq_X0_readJoint_123 (t := 130) rfl rfl (fun (c305 : ¬ x285.toInt = x304.toInt) => ?_) (fun (c305 : ¬ (¬ x285.toInt = x304.toInt)) => ?_)
              · refine ex_ic oq_X0_readJoint_130 (m := 0) (by decide) (fun x306 hx306 => ?_)
                refine ex_pfb oq_X0_readJoint_131 Th297 (k := 53) (d := 0) rfl rfl rfl (by omega) (by omega) (fun h307 Th307 wh307 => ?_)
                have Fh307 : cw_Fr cw_Ds cw_sh kk_X0_readJoint.2.2.2.2.2.1 h0 h307 := cw_Fr_tr Fh297 (cw_Fr_wrf wh307 (k := 53) (d := 0) rfl rfl (by decide +kernel))
                have eh307_53_2 : ri_at h307 53 2 = ((zbi (zrk (zsk k w)) st).length : Int) := (ri_ne wh307 (.inr (by decide))).trans eh297_53_2
                clear eh297_53_2
                have eh307_53_3 : ri_at h307 53 3 = oc := (ri_ne wh307 (.inr (by decide))).trans eh297_53_3
                clear eh297_53_3
                have eh307_b_2 : ri_at h307 b 2 = ((cl ++ (zbp (zrk (zsk k w)) st).map zsi).length : Int) := (ri_ne wh307 (.inl (cw_kne (k := b) (d := 4) (k' := 53) (d' := 0) hb4 rfl (by decide)))).trans eh297_b_2
                clear eh297_b_2
                have eh307_b_3 : ri_at h307 b 3 = kn := (ri_ne wh307 (.inl (cw_kne (k := b) (d := 4) (k' := 53) (d' := 0) hb4 rfl (by decide)))).trans eh297_b_3
                clear eh297_b_3
                have eh307_51_4 : ri_at h307 51 4 = kc := (ri_ne wh307 (.inl (by decide))).trans eh297_51_4
                clear eh297_51_4
                have eh307_51_6 : ri_at h307 51 6 = vc := (ri_ne wh307 (.inl (by decide))).trans eh297_51_6
                clear eh297_51_6
                have eh307_53_4 : ri_at h307 53 4 = (nm : Int) := (ri_ne wh307 (.inr (by decide))).trans eh297_53_4
                clear eh297_53_4
                have Rh307 := zrow_eq Rh297 (fun i => ri_ne wh307 (.inl (by decide)))
                refine ex_al oq_X0_readJoint_134 gL290_0 ?_
                refine ex_il oq_X0_readJoint_135 gL290_1 ?_
                refine ex_cv oq_X0_readJoint_136 (by decide) Th307 (k := 53) (d := 0) (as := [cv_i x285]) (stk := []) rfl rfl rfl rfl rfl rfl ⟨rfl, rfl⟩ (R := fun o => ∃ (x : Int32) (hb : cv_H), o = (some (cv_i x), hb) ∧ cw_T G hb ∧ cw_Fr cw_Ds cw_sh kk_X0_holdKnot.2.2.2.2.2.1 h307 hb) (ct_holdKnot hb4 (hP7 _ Fh307) (a := (zsk k w)) (st := (zbi (zrk (zsk k w)) st)) Th307 Rh307 eh307_53_2 eh307_b_3 (by omega) (by omega) has (fun x hb b1 b2 b3 => ⟨x, hb, rfl, b1, b2⟩)) (fun o ho9 => ?_)
                obtain ⟨x308, h309, rfl, Th309, Ch309⟩ := ho9
                show cw_X _ _ _ _ _ [cv_i x308] h309
                have Fh309 : cw_Fr cw_Ds cw_sh kk_X0_readJoint.2.2.2.2.2.1 h0 h309 := cw_Fr_tr Fh307 (cw_Fr_mono (by decide +kernel) Ch309)
                have eh309_53_3 : ri_at h309 53 3 = oc := (ri_frf Ch309 (k := 53) (d := 0) rfl rfl (by decide +kernel)).trans eh307_53_3
                clear eh307_53_3
                have eh309_b_2 : ri_at h309 b 2 = ((cl ++ (zbp (zrk (zsk k w)) st).map zsi).length : Int) := (ri_frf Ch309 (k := b) (d := 4) hb4 rfl (by decide +kernel)).trans eh307_b_2
                clear eh307_b_2
                have eh309_51_4 : ri_at h309 51 4 = kc := (ri_frf Ch309 (k := 51) (d := 6) rfl rfl (by decide +kernel)).trans eh307_51_4
                clear eh307_51_4
                have eh309_51_6 : ri_at h309 51 6 = vc := (ri_frf Ch309 (k := 51) (d := 6) rfl rfl (by decide +kernel)).trans eh307_51_6
                clear eh307_51_6
                have eh309_53_4 : ri_at h309 53 4 = (nm : Int) := (ri_frf Ch309 (k := 53) (d := 0) rfl rfl (by decide +kernel)).trans eh307_53_4
                clear eh307_53_4
                exact ex_reti oq_X0_readJoint_139 rfl (hQ x308 h309 Th309 Fh309 (.inr ⟨eh309_53_4, .inr ⟨by omega, hs0, (by rw [if_neg (show ¬ zrk (zsk k w) = 4 by omega)]; exact eh309_b_2), (by rw [if_neg (show ¬ zrk (zsk k w) = 4 by omega)]; exact zNm_eq mh293 (fun i => ((ri_frr Ch309 (k := (b + 2)) (d := 29) hk2 rfl (by decide +kernel)).trans ((ri_ne wh307 (.inl (cw_kne (k := (b + 2)) (d := 29) (k' := 53) (d' := 0) hk2 rfl (by decide)))).trans (ri_ne wh297 (.inl (cw_kne (k := (b + 2)) (d := 29) (k' := 53) (d' := 0) hk2 rfl (by decide))))))))⟩⟩))
              · refine ex_ic oq_X0_readJoint_126 (m := 1) (by decide) (fun x310 hx310 => ?_)
                refine ex_go oq_X0_readJoint_127 (t := 131) rfl rfl ?_
                refine ex_pfb oq_X0_readJoint_131 Th297 (k := 53) (d := 0) rfl rfl rfl (by omega) (by omega) (fun h311 Th311 wh311 => ?_)
                have Fh311 : cw_Fr cw_Ds cw_sh kk_X0_readJoint.2.2.2.2.2.1 h0 h311 := cw_Fr_tr Fh297 (cw_Fr_wrf wh311 (k := 53) (d := 0) rfl rfl (by decide +kernel))
                have eh311_53_2 : ri_at h311 53 2 = ((zbi (zrk (zsk k w)) st).length : Int) := (ri_ne wh311 (.inr (by decide))).trans eh297_53_2
                clear eh297_53_2
                have eh311_53_3 : ri_at h311 53 3 = oc := (ri_ne wh311 (.inr (by decide))).trans eh297_53_3
                clear eh297_53_3
                have eh311_b_2 : ri_at h311 b 2 = ((cl ++ (zbp (zrk (zsk k w)) st).map zsi).length : Int) := (ri_ne wh311 (.inl (cw_kne (k := b) (d := 4) (k' := 53) (d' := 0) hb4 rfl (by decide)))).trans eh297_b_2
                clear eh297_b_2
                have eh311_b_3 : ri_at h311 b 3 = kn := (ri_ne wh311 (.inl (cw_kne (k := b) (d := 4) (k' := 53) (d' := 0) hb4 rfl (by decide)))).trans eh297_b_3
                clear eh297_b_3
                have eh311_51_4 : ri_at h311 51 4 = kc := (ri_ne wh311 (.inl (by decide))).trans eh297_51_4
                clear eh297_51_4
                have eh311_51_6 : ri_at h311 51 6 = vc := (ri_ne wh311 (.inl (by decide))).trans eh297_51_6
                clear eh297_51_6
                have eh311_53_4 : ri_at h311 53 4 = (nm : Int) := (ri_ne wh311 (.inr (by decide))).trans eh297_53_4
                clear eh297_53_4
                have Rh311 := zrow_eq Rh297 (fun i => ri_ne wh311 (.inl (by decide)))
                refine ex_al oq_X0_readJoint_134 gL290_0 ?_
                refine ex_il oq_X0_readJoint_135 gL290_1 ?_
                refine ex_cv oq_X0_readJoint_136 (by decide) Th311 (k := 53) (d := 0) (as := [cv_i x285]) (stk := []) rfl rfl rfl rfl rfl rfl ⟨rfl, rfl⟩ (R := fun o => ∃ (x : Int32) (hb : cv_H), o = (some (cv_i x), hb) ∧ cw_T G hb ∧ cw_Fr cw_Ds cw_sh kk_X0_holdKnot.2.2.2.2.2.1 h311 hb) (ct_holdKnot hb4 (hP7 _ Fh311) (a := (zsk k w)) (st := (zbi (zrk (zsk k w)) st)) Th311 Rh311 eh311_53_2 eh311_b_3 (by omega) (by omega) has (fun x hb b1 b2 b3 => ⟨x, hb, rfl, b1, b2⟩)) (fun o ho9 => ?_)
                obtain ⟨x312, h313, rfl, Th313, Ch313⟩ := ho9
                show cw_X _ _ _ _ _ [cv_i x312] h313
                have Fh313 : cw_Fr cw_Ds cw_sh kk_X0_readJoint.2.2.2.2.2.1 h0 h313 := cw_Fr_tr Fh311 (cw_Fr_mono (by decide +kernel) Ch313)
                have eh313_53_3 : ri_at h313 53 3 = oc := (ri_frf Ch313 (k := 53) (d := 0) rfl rfl (by decide +kernel)).trans eh311_53_3
                clear eh311_53_3
                have eh313_b_2 : ri_at h313 b 2 = ((cl ++ (zbp (zrk (zsk k w)) st).map zsi).length : Int) := (ri_frf Ch313 (k := b) (d := 4) hb4 rfl (by decide +kernel)).trans eh311_b_2
                clear eh311_b_2
                have eh313_51_4 : ri_at h313 51 4 = kc := (ri_frf Ch313 (k := 51) (d := 6) rfl rfl (by decide +kernel)).trans eh311_51_4
                clear eh311_51_4
                have eh313_51_6 : ri_at h313 51 6 = vc := (ri_frf Ch313 (k := 51) (d := 6) rfl rfl (by decide +kernel)).trans eh311_51_6
                clear eh311_51_6
                have eh313_53_4 : ri_at h313 53 4 = (nm : Int) := (ri_frf Ch313 (k := 53) (d := 0) rfl rfl (by decide +kernel)).trans eh311_53_4
                clear eh311_53_4
                exact ex_reti oq_X0_readJoint_139 rfl (hQ x312 h313 Th313 Fh313 (.inr ⟨eh313_53_4, .inr ⟨by omega, hs0, (by rw [if_neg (show ¬ zrk (zsk k w) = 4 by omega)]; exact eh313_b_2), (by rw [if_neg (show ¬ zrk (zsk k w) = 4 by omega)]; exact zNm_eq mh293 (fun i => ((ri_frr Ch313 (k := (b + 2)) (d := 29) hk2 rfl (by decide +kernel)).trans ((ri_ne wh311 (.inl (cw_kne (k := (b + 2)) (d := 29) (k' := 53) (d' := 0) hk2 rfl (by decide)))).trans (ri_ne wh297 (.inl (cw_kne (k := (b + 2)) (d := 29) (k' := 53) (d' := 0) hk2 rfl (by decide))))))))⟩⟩))
          · exfalso; omega
        · have hrk : x289.toInt = zrk (zsk k w) := by rw [qx289, has]; exact hrz
          have hr1 := zrk_p (a := (zsk k w)) (by omega)
          refine ex_ic oq_X0_readJoint_73 (m := 5) (by decide) (fun x314 hx314 => ?_)
          refine ex_go oq_X0_readJoint_74 (t := 78) rfl rfl ?_
          have hlh315 : (if x314.toInt = 0 then 1 else x314.toInt) = 5 := by split <;> omega
          refine ex_cv oq_X0_readJoint_78 (by decide) hT (k := 53) (d := 0) (as := [cv_i x314]) (stk := []) rfl rfl rfl rfl rfl rfl ⟨rfl, rfl⟩ (R := fun o => ∃ hb : cv_H, o = (none, hb) ∧ cw_T G hb ∧ cw_Fr cw_Ds cw_sh kk_X0_release.2.2.2.2.2.1 h0 hb ∧ zrow hb 54 ((zbi 5 st).map zsi) ∧ ri_at hb 53 2 = (zbi 5 st).length ∧ zNm hb (b + 2) 0 (cl ++ (zbp 5 st).map zsi) ∧ ri_at hb b 2 = (cl ++ (zbp 5 st).map zsi).length) (ct_releaseD hb4 hk2 (hP7 _ Fh0) (hP1 _ Fh0) (R := x314) (kn := kn) (st := st) (cl := cl) hT hk64 (by omega) ho hrw hhc hcc hco (by omega) (zNm_eq hcl (fun i => rfl)) (fun hb b1 b2 b3 b4 b5 b6 b7 b8 => by rw [hlh315] at b3 b4 b7 b8; exact ⟨hb, rfl, b1, b2, b3, b4, b7, b8⟩)) (fun o ho9 => ?_)
          obtain ⟨h315, rfl, Th315, Ch315, Rh315, ch315, mh315, nh315⟩ := ho9
          show cw_X _ _ _ _ _ [] h315
          have Fh315 : cw_Fr cw_Ds cw_sh kk_X0_readJoint.2.2.2.2.2.1 h0 h315 := cw_Fr_tr Fh0 (cw_Fr_mono (by decide +kernel) Ch315)
          have eh315_53_3 : ri_at h315 53 3 = oc := (ri_frf Ch315 (k := 53) (d := 0) rfl rfl (by decide +kernel)).trans hop
          have eh315_b_3 : ri_at h315 b 3 = kn := (ri_frf Ch315 (k := b) (d := 4) hb4 rfl (by decide +kernel)).trans hkn
          have eh315_51_4 : ri_at h315 51 4 = kc := (ri_frf Ch315 (k := 51) (d := 6) rfl rfl (by decide +kernel)).trans hk
          have eh315_51_6 : ri_at h315 51 6 = vc := (ri_frf Ch315 (k := 51) (d := 6) rfl rfl (by decide +kernel)).trans hv
          have eh315_53_4 : ri_at h315 53 4 = (nm : Int) := (ri_frf Ch315 (k := 53) (d := 0) rfl rfl (by decide +kernel)).trans hnm
          have hoh315 : zok (zbi 5 st) := zbi_ok ho
          have hzh315 := zc_len hoh315
          have hcsh315 : zc0 (zbi 5 st) = zc0 st := zbi_c0 (by omega)
          have hlnh315 : (zbi 5 st).length ≤ st.length := zbi_len
          refine ex_il oq_X0_readJoint_81 gL290_2 ?_
          refine ex_ic oq_X0_readJoint_82 (m := 4) (by decide) (fun x316 hx316 => ?_)
          refine ex_if oq_X0_readJoint_83 (t := 106) rfl rfl (fun (c317 : ¬ x289.toInt = x316.toInt) => ?_) (fun (c317 : ¬ (¬ x289.toInt = x316.toInt)) => ?_)
          · exfalso; omega
          · cases hz5 : zbi 5 st with
            | nil =>
              have hlz : (zbi 5 st).length = 0 := by rw [hz5]; rfl
              refine ex_al oq_X0_readJoint_86 gL290_0 ?_
              obtain ⟨x318, ax318, rx318, lx318, ux318⟩ := ri_fld (k := 53) (d := 0) (f := 2) Th315 rfl rfl rfl
              try dsimp only at lx318 ux318
              refine ex_gf oq_X0_readJoint_87 Th315 (k := 53) (d := 0) rfl rfl ax318 ?_
              clear lx318 ux318
              have rx318 := (rx318.symm.trans ch315 : x318.toInt = ((zbi 5 st).length : Int))
              refine ex_if0 oq_X0_readJoint_90 (t := 106) rfl rfl (fun (c319 : x318.toInt ≤ 0) => ?_) (fun (c319 : ¬ (x318.toInt ≤ 0)) => ?_)
              · refine ex_al oq_X0_readJoint_106 gL290_0 ?_
                refine ex_ic oq_X0_readJoint_107 (m := 1) (by decide) (fun x320 hx320 => ?_)
                refine ex_pfb oq_X0_readJoint_108 Th315 (k := 53) (d := 0) rfl rfl rfl (by omega) (by omega) (fun h321 Th321 wh321 => ?_)
                have Fh321 : cw_Fr cw_Ds cw_sh kk_X0_readJoint.2.2.2.2.2.1 h0 h321 := cw_Fr_tr Fh315 (cw_Fr_wrf wh321 (k := 53) (d := 0) rfl rfl (by decide +kernel))
                have eh321_53_2 : ri_at h321 53 2 = ((zbi 5 st).length : Int) := (ri_ne wh321 (.inr (by decide))).trans ch315
                have eh321_53_3 : ri_at h321 53 3 = oc := (ri_ne wh321 (.inr (by decide))).trans eh315_53_3
                clear eh315_53_3
                have eh321_b_2 : ri_at h321 b 2 = ((cl ++ (zbp 5 st).map zsi).length : Int) := (ri_ne wh321 (.inl (cw_kne (k := b) (d := 4) (k' := 53) (d' := 0) hb4 rfl (by decide)))).trans nh315
                have eh321_b_3 : ri_at h321 b 3 = kn := (ri_ne wh321 (.inl (cw_kne (k := b) (d := 4) (k' := 53) (d' := 0) hb4 rfl (by decide)))).trans eh315_b_3
                clear eh315_b_3
                have eh321_51_4 : ri_at h321 51 4 = kc := (ri_ne wh321 (.inl (by decide))).trans eh315_51_4
                clear eh315_51_4
                have eh321_51_6 : ri_at h321 51 6 = vc := (ri_ne wh321 (.inl (by decide))).trans eh315_51_6
                clear eh315_51_6
                have eh321_53_4 : ri_at h321 53 4 = (nm : Int) := (ri_ne wh321 (.inr (by decide))).trans eh315_53_4
                clear eh315_53_4
                have Rh321 := zrow_eq Rh315 (fun i => ri_ne wh321 (.inl (by decide)))
                refine ex_al oq_X0_readJoint_111 gL290_0 ?_
                refine ex_il oq_X0_readJoint_112 gL290_1 ?_
                refine ex_si oq_X0_readJoint_113 (m := 20001) (by decide) (fun x322 hx322 => ?_)
                refine ex_if oq_X0_readJoint_116 (t := 126) rfl rfl (fun (c323 : x285.toInt = x322.toInt) => ?_) (fun (c323 : ¬ (x285.toInt = x322.toInt)) => ?_)
                · refine ex_ic oq_X0_readJoint_126 (m := 1) (by decide) (fun x324 hx324 => ?_)
                  refine ex_go oq_X0_readJoint_127 (t := 131) rfl rfl ?_
                  refine ex_pfb oq_X0_readJoint_131 Th321 (k := 53) (d := 0) rfl rfl rfl (by omega) (by omega) (fun h325 Th325 wh325 => ?_)
                  have Fh325 : cw_Fr cw_Ds cw_sh kk_X0_readJoint.2.2.2.2.2.1 h0 h325 := cw_Fr_tr Fh321 (cw_Fr_wrf wh325 (k := 53) (d := 0) rfl rfl (by decide +kernel))
                  have eh325_53_2 : ri_at h325 53 2 = ((zbi 5 st).length : Int) := (ri_ne wh325 (.inr (by decide))).trans eh321_53_2
                  clear eh321_53_2
                  have eh325_53_3 : ri_at h325 53 3 = oc := (ri_ne wh325 (.inr (by decide))).trans eh321_53_3
                  clear eh321_53_3
                  have eh325_b_2 : ri_at h325 b 2 = ((cl ++ (zbp 5 st).map zsi).length : Int) := (ri_ne wh325 (.inl (cw_kne (k := b) (d := 4) (k' := 53) (d' := 0) hb4 rfl (by decide)))).trans eh321_b_2
                  clear eh321_b_2
                  have eh325_b_3 : ri_at h325 b 3 = kn := (ri_ne wh325 (.inl (cw_kne (k := b) (d := 4) (k' := 53) (d' := 0) hb4 rfl (by decide)))).trans eh321_b_3
                  clear eh321_b_3
                  have eh325_51_4 : ri_at h325 51 4 = kc := (ri_ne wh325 (.inl (by decide))).trans eh321_51_4
                  clear eh321_51_4
                  have eh325_51_6 : ri_at h325 51 6 = vc := (ri_ne wh325 (.inl (by decide))).trans eh321_51_6
                  clear eh321_51_6
                  have eh325_53_4 : ri_at h325 53 4 = (nm : Int) := (ri_ne wh325 (.inr (by decide))).trans eh321_53_4
                  clear eh321_53_4
                  have Rh325 := zrow_eq Rh321 (fun i => ri_ne wh325 (.inl (by decide)))
                  refine ex_al oq_X0_readJoint_134 gL290_0 ?_
                  refine ex_il oq_X0_readJoint_135 gL290_1 ?_
                  refine ex_cv oq_X0_readJoint_136 (by decide) Th325 (k := 53) (d := 0) (as := [cv_i x285]) (stk := []) rfl rfl rfl rfl rfl rfl ⟨rfl, rfl⟩ (R := fun o => ∃ (x : Int32) (hb : cv_H), o = (some (cv_i x), hb) ∧ cw_T G hb ∧ cw_Fr cw_Ds cw_sh kk_X0_holdKnot.2.2.2.2.2.1 h325 hb) (ct_holdKnot hb4 (hP7 _ Fh325) (a := (zsk k w)) (st := (zbi 5 st)) Th325 Rh325 eh325_53_2 eh325_b_3 (by omega) (by omega) has (fun x hb b1 b2 b3 => ⟨x, hb, rfl, b1, b2⟩)) (fun o ho9 => ?_)
                  obtain ⟨x326, h327, rfl, Th327, Ch327⟩ := ho9
                  show cw_X _ _ _ _ _ [cv_i x326] h327
                  have Fh327 : cw_Fr cw_Ds cw_sh kk_X0_readJoint.2.2.2.2.2.1 h0 h327 := cw_Fr_tr Fh325 (cw_Fr_mono (by decide +kernel) Ch327)
                  have eh327_53_3 : ri_at h327 53 3 = oc := (ri_frf Ch327 (k := 53) (d := 0) rfl rfl (by decide +kernel)).trans eh325_53_3
                  clear eh325_53_3
                  have eh327_b_2 : ri_at h327 b 2 = ((cl ++ (zbp 5 st).map zsi).length : Int) := (ri_frf Ch327 (k := b) (d := 4) hb4 rfl (by decide +kernel)).trans eh325_b_2
                  clear eh325_b_2
                  have eh327_51_4 : ri_at h327 51 4 = kc := (ri_frf Ch327 (k := 51) (d := 6) rfl rfl (by decide +kernel)).trans eh325_51_4
                  clear eh325_51_4
                  have eh327_51_6 : ri_at h327 51 6 = vc := (ri_frf Ch327 (k := 51) (d := 6) rfl rfl (by decide +kernel)).trans eh325_51_6
                  clear eh325_51_6
                  have eh327_53_4 : ri_at h327 53 4 = (nm : Int) := (ri_frf Ch327 (k := 53) (d := 0) rfl rfl (by decide +kernel)).trans eh325_53_4
                  clear eh325_53_4
                  exact ex_reti oq_X0_readJoint_139 rfl (hQ x326 h327 Th327 Fh327 (.inr ⟨eh327_53_4, .inr ⟨by omega, hs0, (by rw [if_pos (show zrk (zsk k w) = 4 by omega)]; exact eh327_b_2), (by rw [if_pos (show zrk (zsk k w) = 4 by omega)]; exact zNm_eq mh315 (fun i => ((ri_frr Ch327 (k := (b + 2)) (d := 29) hk2 rfl (by decide +kernel)).trans ((ri_ne wh325 (.inl (cw_kne (k := (b + 2)) (d := 29) (k' := 53) (d' := 0) hk2 rfl (by decide)))).trans (ri_ne wh321 (.inl (cw_kne (k := (b + 2)) (d := 29) (k' := 53) (d' := 0) hk2 rfl (by decide))))))))⟩⟩))
                · refine ex_il oq_X0_readJoint_119 gL290_1 ?_
                  refine ex_si oq_X0_readJoint_120 (m := 20000) (by decide) (fun x328 hx328 => ?_)
                  refine ex_if oq_X0_readJoint_123 (t := 130) rfl rfl (fun (c329 : ¬ x285.toInt = x328.toInt) => ?_) (fun (c329 : ¬ (¬ x285.toInt = x328.toInt)) => ?_)
                  · refine ex_ic oq_X0_readJoint_130 (m := 0) (by decide) (fun x330 hx330 => ?_)
                    refine ex_pfb oq_X0_readJoint_131 Th321 (k := 53) (d := 0) rfl rfl rfl (by omega) (by omega) (fun h331 Th331 wh331 => ?_)
                    have Fh331 : cw_Fr cw_Ds cw_sh kk_X0_readJoint.2.2.2.2.2.1 h0 h331 := cw_Fr_tr Fh321 (cw_Fr_wrf wh331 (k := 53) (d := 0) rfl rfl (by decide +kernel))
                    have eh331_53_2 : ri_at h331 53 2 = ((zbi 5 st).length : Int) := (ri_ne wh331 (.inr (by decide))).trans eh321_53_2
                    clear eh321_53_2
                    have eh331_53_3 : ri_at h331 53 3 = oc := (ri_ne wh331 (.inr (by decide))).trans eh321_53_3
                    clear eh321_53_3
                    have eh331_b_2 : ri_at h331 b 2 = ((cl ++ (zbp 5 st).map zsi).length : Int) := (ri_ne wh331 (.inl (cw_kne (k := b) (d := 4) (k' := 53) (d' := 0) hb4 rfl (by decide)))).trans eh321_b_2
                    clear eh321_b_2
                    have eh331_b_3 : ri_at h331 b 3 = kn := (ri_ne wh331 (.inl (cw_kne (k := b) (d := 4) (k' := 53) (d' := 0) hb4 rfl (by decide)))).trans eh321_b_3
                    clear eh321_b_3
                    have eh331_51_4 : ri_at h331 51 4 = kc := (ri_ne wh331 (.inl (by decide))).trans eh321_51_4
                    clear eh321_51_4
                    have eh331_51_6 : ri_at h331 51 6 = vc := (ri_ne wh331 (.inl (by decide))).trans eh321_51_6
                    clear eh321_51_6
                    have eh331_53_4 : ri_at h331 53 4 = (nm : Int) := (ri_ne wh331 (.inr (by decide))).trans eh321_53_4
                    clear eh321_53_4
                    have Rh331 := zrow_eq Rh321 (fun i => ri_ne wh331 (.inl (by decide)))
                    refine ex_al oq_X0_readJoint_134 gL290_0 ?_
                    refine ex_il oq_X0_readJoint_135 gL290_1 ?_
                    refine ex_cv oq_X0_readJoint_136 (by decide) Th331 (k := 53) (d := 0) (as := [cv_i x285]) (stk := []) rfl rfl rfl rfl rfl rfl ⟨rfl, rfl⟩ (R := fun o => ∃ (x : Int32) (hb : cv_H), o = (some (cv_i x), hb) ∧ cw_T G hb ∧ cw_Fr cw_Ds cw_sh kk_X0_holdKnot.2.2.2.2.2.1 h331 hb) (ct_holdKnot hb4 (hP7 _ Fh331) (a := (zsk k w)) (st := (zbi 5 st)) Th331 Rh331 eh331_53_2 eh331_b_3 (by omega) (by omega) has (fun x hb b1 b2 b3 => ⟨x, hb, rfl, b1, b2⟩)) (fun o ho9 => ?_)
                    obtain ⟨x332, h333, rfl, Th333, Ch333⟩ := ho9
                    show cw_X _ _ _ _ _ [cv_i x332] h333
                    have Fh333 : cw_Fr cw_Ds cw_sh kk_X0_readJoint.2.2.2.2.2.1 h0 h333 := cw_Fr_tr Fh331 (cw_Fr_mono (by decide +kernel) Ch333)
                    have eh333_53_3 : ri_at h333 53 3 = oc := (ri_frf Ch333 (k := 53) (d := 0) rfl rfl (by decide +kernel)).trans eh331_53_3
                    clear eh331_53_3
                    have eh333_b_2 : ri_at h333 b 2 = ((cl ++ (zbp 5 st).map zsi).length : Int) := (ri_frf Ch333 (k := b) (d := 4) hb4 rfl (by decide +kernel)).trans eh331_b_2
                    clear eh331_b_2
                    have eh333_51_4 : ri_at h333 51 4 = kc := (ri_frf Ch333 (k := 51) (d := 6) rfl rfl (by decide +kernel)).trans eh331_51_4
                    clear eh331_51_4
                    have eh333_51_6 : ri_at h333 51 6 = vc := (ri_frf Ch333 (k := 51) (d := 6) rfl rfl (by decide +kernel)).trans eh331_51_6
                    clear eh331_51_6
                    have eh333_53_4 : ri_at h333 53 4 = (nm : Int) := (ri_frf Ch333 (k := 53) (d := 0) rfl rfl (by decide +kernel)).trans eh331_53_4
                    clear eh331_53_4
                    exact ex_reti oq_X0_readJoint_139 rfl (hQ x332 h333 Th333 Fh333 (.inr ⟨eh333_53_4, .inr ⟨by omega, hs0, (by rw [if_pos (show zrk (zsk k w) = 4 by omega)]; exact eh333_b_2), (by rw [if_pos (show zrk (zsk k w) = 4 by omega)]; exact zNm_eq mh315 (fun i => ((ri_frr Ch333 (k := (b + 2)) (d := 29) hk2 rfl (by decide +kernel)).trans ((ri_ne wh331 (.inl (cw_kne (k := (b + 2)) (d := 29) (k' := 53) (d' := 0) hk2 rfl (by decide)))).trans (ri_ne wh321 (.inl (cw_kne (k := (b + 2)) (d := 29) (k' := 53) (d' := 0) hk2 rfl (by decide))))))))⟩⟩))
                  · refine ex_ic oq_X0_readJoint_126 (m := 1) (by decide) (fun x334 hx334 => ?_)
                    refine ex_go oq_X0_readJoint_127 (t := 131) rfl rfl ?_
                    refine ex_pfb oq_X0_readJoint_131 Th321 (k := 53) (d := 0) rfl rfl rfl (by omega) (by omega) (fun h335 Th335 wh335 => ?_)
                    have Fh335 : cw_Fr cw_Ds cw_sh kk_X0_readJoint.2.2.2.2.2.1 h0 h335 := cw_Fr_tr Fh321 (cw_Fr_wrf wh335 (k := 53) (d := 0) rfl rfl (by decide +kernel))
                    have eh335_53_2 : ri_at h335 53 2 = ((zbi 5 st).length : Int) := (ri_ne wh335 (.inr (by decide))).trans eh321_53_2
                    clear eh321_53_2
                    have eh335_53_3 : ri_at h335 53 3 = oc := (ri_ne wh335 (.inr (by decide))).trans eh321_53_3
                    clear eh321_53_3
                    have eh335_b_2 : ri_at h335 b 2 = ((cl ++ (zbp 5 st).map zsi).length : Int) := (ri_ne wh335 (.inl (cw_kne (k := b) (d := 4) (k' := 53) (d' := 0) hb4 rfl (by decide)))).trans eh321_b_2
                    clear eh321_b_2
                    have eh335_b_3 : ri_at h335 b 3 = kn := (ri_ne wh335 (.inl (cw_kne (k := b) (d := 4) (k' := 53) (d' := 0) hb4 rfl (by decide)))).trans eh321_b_3
                    clear eh321_b_3
                    have eh335_51_4 : ri_at h335 51 4 = kc := (ri_ne wh335 (.inl (by decide))).trans eh321_51_4
                    clear eh321_51_4
                    have eh335_51_6 : ri_at h335 51 6 = vc := (ri_ne wh335 (.inl (by decide))).trans eh321_51_6
                    clear eh321_51_6
                    have eh335_53_4 : ri_at h335 53 4 = (nm : Int) := (ri_ne wh335 (.inr (by decide))).trans eh321_53_4
                    clear eh321_53_4
                    have Rh335 := zrow_eq Rh321 (fun i => ri_ne wh335 (.inl (by decide)))
                    refine ex_al oq_X0_readJoint_134 gL290_0 ?_
                    refine ex_il oq_X0_readJoint_135 gL290_1 ?_
                    refine ex_cv oq_X0_readJoint_136 (by decide) Th335 (k := 53) (d := 0) (as := [cv_i x285]) (stk := []) rfl rfl rfl rfl rfl rfl ⟨rfl, rfl⟩ (R := fun o => ∃ (x : Int32) (hb : cv_H), o = (some (cv_i x), hb) ∧ cw_T G hb ∧ cw_Fr cw_Ds cw_sh kk_X0_holdKnot.2.2.2.2.2.1 h335 hb) (ct_holdKnot hb4 (hP7 _ Fh335) (a := (zsk k w)) (st := (zbi 5 st)) Th335 Rh335 eh335_53_2 eh335_b_3 (by omega) (by omega) has (fun x hb b1 b2 b3 => ⟨x, hb, rfl, b1, b2⟩)) (fun o ho9 => ?_)
                    obtain ⟨x336, h337, rfl, Th337, Ch337⟩ := ho9
                    show cw_X _ _ _ _ _ [cv_i x336] h337
                    have Fh337 : cw_Fr cw_Ds cw_sh kk_X0_readJoint.2.2.2.2.2.1 h0 h337 := cw_Fr_tr Fh335 (cw_Fr_mono (by decide +kernel) Ch337)
                    have eh337_53_3 : ri_at h337 53 3 = oc := (ri_frf Ch337 (k := 53) (d := 0) rfl rfl (by decide +kernel)).trans eh335_53_3
                    clear eh335_53_3
                    have eh337_b_2 : ri_at h337 b 2 = ((cl ++ (zbp 5 st).map zsi).length : Int) := (ri_frf Ch337 (k := b) (d := 4) hb4 rfl (by decide +kernel)).trans eh335_b_2
                    clear eh335_b_2
                    have eh337_51_4 : ri_at h337 51 4 = kc := (ri_frf Ch337 (k := 51) (d := 6) rfl rfl (by decide +kernel)).trans eh335_51_4
                    clear eh335_51_4
                    have eh337_51_6 : ri_at h337 51 6 = vc := (ri_frf Ch337 (k := 51) (d := 6) rfl rfl (by decide +kernel)).trans eh335_51_6
                    clear eh335_51_6
                    have eh337_53_4 : ri_at h337 53 4 = (nm : Int) := (ri_frf Ch337 (k := 53) (d := 0) rfl rfl (by decide +kernel)).trans eh335_53_4
                    clear eh335_53_4
                    exact ex_reti oq_X0_readJoint_139 rfl (hQ x336 h337 Th337 Fh337 (.inr ⟨eh337_53_4, .inr ⟨by omega, hs0, (by rw [if_pos (show zrk (zsk k w) = 4 by omega)]; exact eh337_b_2), (by rw [if_pos (show zrk (zsk k w) = 4 by omega)]; exact zNm_eq mh315 (fun i => ((ri_frr Ch337 (k := (b + 2)) (d := 29) hk2 rfl (by decide +kernel)).trans ((ri_ne wh335 (.inl (cw_kne (k := (b + 2)) (d := 29) (k' := 53) (d' := 0) hk2 rfl (by decide)))).trans (ri_ne wh321 (.inl (cw_kne (k := (b + 2)) (d := 29) (k' := 53) (d' := 0) hk2 rfl (by decide))))))))⟩⟩))
              · exfalso; omega
            | cons x5 r5 =>
              have hlz : (zbi 5 st).length = r5.length + 1 := by rw [hz5]; rfl
              have Rz : zrow h315 54 ((x5 :: r5).map zsi) := by rw [← hz5]; exact Rh315
              refine ex_al oq_X0_readJoint_86 gL290_0 ?_
              obtain ⟨x338, ax338, rx338, lx338, ux338⟩ := ri_fld (k := 53) (d := 0) (f := 2) Th315 rfl rfl rfl
              try dsimp only at lx338 ux338
              refine ex_gf oq_X0_readJoint_87 Th315 (k := 53) (d := 0) rfl rfl ax338 ?_
              clear lx338 ux338
              have rx338 := (rx338.symm.trans ch315 : x338.toInt = ((zbi 5 st).length : Int))
              refine ex_if0 oq_X0_readJoint_90 (t := 106) rfl rfl (fun (c339 : x338.toInt ≤ 0) => ?_) (fun (c339 : ¬ (x338.toInt ≤ 0)) => ?_)
              · exfalso; omega
              · refine ex_al oq_X0_readJoint_93 gL290_0 ?_
                refine ex_cv oq_X0_readJoint_94 (by decide) Th315 (k := 53) (d := 0) (as := []) (stk := []) rfl rfl rfl rfl rfl rfl ⟨rfl, rfl⟩ (R := fun o => ∃ x : Int32, o = (some (cv_i x), h315) ∧ x.toInt = zsi x5) (ct_latest (a := x5) (st := r5) Th315 Rz (by omega) (by omega) (fun x q => ⟨x, rfl, q⟩)) (fun o ho9 => ?_)
                obtain ⟨x340, rfl, qx340⟩ := ho9
                show cw_X _ _ _ _ _ [cv_i x340] h315
                refine ex_cs oq_X0_readJoint_97 (by decide) (as := [cv_i x340]) (stk := []) rfl rfl rfl ⟨rfl, rfl⟩ (R := fun o => ∃ x : Int32, o = (some (cv_i x), h315) ∧ x.toInt = zrn x340.toInt) (ct_rankOf x340 (fun x q => ⟨x, rfl, q⟩)) (fun o ho9 => ?_)
                obtain ⟨x341, rfl, qx341⟩ := ho9
                show cw_X _ _ _ _ _ [cv_i x341] h315
                refine ex_ic oq_X0_readJoint_100 (m := 4) (by decide) (fun x342 hx342 => ?_)
                refine ex_if oq_X0_readJoint_101 (t := 106) rfl rfl (fun (c343 : ¬ x341.toInt = x342.toInt) => ?_) (fun (c343 : ¬ (¬ x341.toInt = x342.toInt)) => ?_)
                · refine ex_al oq_X0_readJoint_106 gL290_0 ?_
                  refine ex_ic oq_X0_readJoint_107 (m := 1) (by decide) (fun x344 hx344 => ?_)
                  refine ex_pfb oq_X0_readJoint_108 Th315 (k := 53) (d := 0) rfl rfl rfl (by omega) (by omega) (fun h345 Th345 wh345 => ?_)
                  have Fh345 : cw_Fr cw_Ds cw_sh kk_X0_readJoint.2.2.2.2.2.1 h0 h345 := cw_Fr_tr Fh315 (cw_Fr_wrf wh345 (k := 53) (d := 0) rfl rfl (by decide +kernel))
                  have eh345_53_2 : ri_at h345 53 2 = ((zbi 5 st).length : Int) := (ri_ne wh345 (.inr (by decide))).trans ch315
                  have eh345_53_3 : ri_at h345 53 3 = oc := (ri_ne wh345 (.inr (by decide))).trans eh315_53_3
                  clear eh315_53_3
                  have eh345_b_2 : ri_at h345 b 2 = ((cl ++ (zbp 5 st).map zsi).length : Int) := (ri_ne wh345 (.inl (cw_kne (k := b) (d := 4) (k' := 53) (d' := 0) hb4 rfl (by decide)))).trans nh315
                  have eh345_b_3 : ri_at h345 b 3 = kn := (ri_ne wh345 (.inl (cw_kne (k := b) (d := 4) (k' := 53) (d' := 0) hb4 rfl (by decide)))).trans eh315_b_3
                  clear eh315_b_3
                  have eh345_51_4 : ri_at h345 51 4 = kc := (ri_ne wh345 (.inl (by decide))).trans eh315_51_4
                  clear eh315_51_4
                  have eh345_51_6 : ri_at h345 51 6 = vc := (ri_ne wh345 (.inl (by decide))).trans eh315_51_6
                  clear eh315_51_6
                  have eh345_53_4 : ri_at h345 53 4 = (nm : Int) := (ri_ne wh345 (.inr (by decide))).trans eh315_53_4
                  clear eh315_53_4
                  have Rh345 := zrow_eq Rh315 (fun i => ri_ne wh345 (.inl (by decide)))
                  refine ex_al oq_X0_readJoint_111 gL290_0 ?_
                  refine ex_il oq_X0_readJoint_112 gL290_1 ?_
                  refine ex_si oq_X0_readJoint_113 (m := 20001) (by decide) (fun x346 hx346 => ?_)
                  refine ex_if oq_X0_readJoint_116 (t := 126) rfl rfl (fun (c347 : x285.toInt = x346.toInt) => ?_) (fun (c347 : ¬ (x285.toInt = x346.toInt)) => ?_)
                  · refine ex_ic oq_X0_readJoint_126 (m := 1) (by decide) (fun x348 hx348 => ?_)
                    refine ex_go oq_X0_readJoint_127 (t := 131) rfl rfl ?_
                    refine ex_pfb oq_X0_readJoint_131 Th345 (k := 53) (d := 0) rfl rfl rfl (by omega) (by omega) (fun h349 Th349 wh349 => ?_)
                    have Fh349 : cw_Fr cw_Ds cw_sh kk_X0_readJoint.2.2.2.2.2.1 h0 h349 := cw_Fr_tr Fh345 (cw_Fr_wrf wh349 (k := 53) (d := 0) rfl rfl (by decide +kernel))
                    have eh349_53_2 : ri_at h349 53 2 = ((zbi 5 st).length : Int) := (ri_ne wh349 (.inr (by decide))).trans eh345_53_2
                    clear eh345_53_2
                    have eh349_53_3 : ri_at h349 53 3 = oc := (ri_ne wh349 (.inr (by decide))).trans eh345_53_3
                    clear eh345_53_3
                    have eh349_b_2 : ri_at h349 b 2 = ((cl ++ (zbp 5 st).map zsi).length : Int) := (ri_ne wh349 (.inl (cw_kne (k := b) (d := 4) (k' := 53) (d' := 0) hb4 rfl (by decide)))).trans eh345_b_2
                    clear eh345_b_2
                    have eh349_b_3 : ri_at h349 b 3 = kn := (ri_ne wh349 (.inl (cw_kne (k := b) (d := 4) (k' := 53) (d' := 0) hb4 rfl (by decide)))).trans eh345_b_3
                    clear eh345_b_3
                    have eh349_51_4 : ri_at h349 51 4 = kc := (ri_ne wh349 (.inl (by decide))).trans eh345_51_4
                    clear eh345_51_4
                    have eh349_51_6 : ri_at h349 51 6 = vc := (ri_ne wh349 (.inl (by decide))).trans eh345_51_6
                    clear eh345_51_6
                    have eh349_53_4 : ri_at h349 53 4 = (nm : Int) := (ri_ne wh349 (.inr (by decide))).trans eh345_53_4
                    clear eh345_53_4
                    have Rh349 := zrow_eq Rh345 (fun i => ri_ne wh349 (.inl (by decide)))
                    refine ex_al oq_X0_readJoint_134 gL290_0 ?_
                    refine ex_il oq_X0_readJoint_135 gL290_1 ?_
                    refine ex_cv oq_X0_readJoint_136 (by decide) Th349 (k := 53) (d := 0) (as := [cv_i x285]) (stk := []) rfl rfl rfl rfl rfl rfl ⟨rfl, rfl⟩ (R := fun o => ∃ (x : Int32) (hb : cv_H), o = (some (cv_i x), hb) ∧ cw_T G hb ∧ cw_Fr cw_Ds cw_sh kk_X0_holdKnot.2.2.2.2.2.1 h349 hb) (ct_holdKnot hb4 (hP7 _ Fh349) (a := (zsk k w)) (st := (zbi 5 st)) Th349 Rh349 eh349_53_2 eh349_b_3 (by omega) (by omega) has (fun x hb b1 b2 b3 => ⟨x, hb, rfl, b1, b2⟩)) (fun o ho9 => ?_)
                    obtain ⟨x350, h351, rfl, Th351, Ch351⟩ := ho9
                    show cw_X _ _ _ _ _ [cv_i x350] h351
                    have Fh351 : cw_Fr cw_Ds cw_sh kk_X0_readJoint.2.2.2.2.2.1 h0 h351 := cw_Fr_tr Fh349 (cw_Fr_mono (by decide +kernel) Ch351)
                    have eh351_53_3 : ri_at h351 53 3 = oc := (ri_frf Ch351 (k := 53) (d := 0) rfl rfl (by decide +kernel)).trans eh349_53_3
                    clear eh349_53_3
                    have eh351_b_2 : ri_at h351 b 2 = ((cl ++ (zbp 5 st).map zsi).length : Int) := (ri_frf Ch351 (k := b) (d := 4) hb4 rfl (by decide +kernel)).trans eh349_b_2
                    clear eh349_b_2
                    have eh351_51_4 : ri_at h351 51 4 = kc := (ri_frf Ch351 (k := 51) (d := 6) rfl rfl (by decide +kernel)).trans eh349_51_4
                    clear eh349_51_4
                    have eh351_51_6 : ri_at h351 51 6 = vc := (ri_frf Ch351 (k := 51) (d := 6) rfl rfl (by decide +kernel)).trans eh349_51_6
                    clear eh349_51_6
                    have eh351_53_4 : ri_at h351 53 4 = (nm : Int) := (ri_frf Ch351 (k := 53) (d := 0) rfl rfl (by decide +kernel)).trans eh349_53_4
                    clear eh349_53_4
                    exact ex_reti oq_X0_readJoint_139 rfl (hQ x350 h351 Th351 Fh351 (.inr ⟨eh351_53_4, .inr ⟨by omega, hs0, (by rw [if_pos (show zrk (zsk k w) = 4 by omega)]; exact eh351_b_2), (by rw [if_pos (show zrk (zsk k w) = 4 by omega)]; exact zNm_eq mh315 (fun i => ((ri_frr Ch351 (k := (b + 2)) (d := 29) hk2 rfl (by decide +kernel)).trans ((ri_ne wh349 (.inl (cw_kne (k := (b + 2)) (d := 29) (k' := 53) (d' := 0) hk2 rfl (by decide)))).trans (ri_ne wh345 (.inl (cw_kne (k := (b + 2)) (d := 29) (k' := 53) (d' := 0) hk2 rfl (by decide))))))))⟩⟩))
                  · refine ex_il oq_X0_readJoint_119 gL290_1 ?_
                    refine ex_si oq_X0_readJoint_120 (m := 20000) (by decide) (fun x352 hx352 => ?_)
                    refine ex_if oq_X0_readJoint_123 (t := 130) rfl rfl (fun (c353 : ¬ x285.toInt = x352.toInt) => ?_) (fun (c353 : ¬ (¬ x285.toInt = x352.toInt)) => ?_)
                    · refine ex_ic oq_X0_readJoint_130 (m := 0) (by decide) (fun x354 hx354 => ?_)
                      refine ex_pfb oq_X0_readJoint_131 Th345 (k := 53) (d := 0) rfl rfl rfl (by omega) (by omega) (fun h355 Th355 wh355 => ?_)
                      have Fh355 : cw_Fr cw_Ds cw_sh kk_X0_readJoint.2.2.2.2.2.1 h0 h355 := cw_Fr_tr Fh345 (cw_Fr_wrf wh355 (k := 53) (d := 0) rfl rfl (by decide +kernel))
                      have eh355_53_2 : ri_at h355 53 2 = ((zbi 5 st).length : Int) := (ri_ne wh355 (.inr (by decide))).trans eh345_53_2
                      clear eh345_53_2
                      have eh355_53_3 : ri_at h355 53 3 = oc := (ri_ne wh355 (.inr (by decide))).trans eh345_53_3
                      clear eh345_53_3
                      have eh355_b_2 : ri_at h355 b 2 = ((cl ++ (zbp 5 st).map zsi).length : Int) := (ri_ne wh355 (.inl (cw_kne (k := b) (d := 4) (k' := 53) (d' := 0) hb4 rfl (by decide)))).trans eh345_b_2
                      clear eh345_b_2
                      have eh355_b_3 : ri_at h355 b 3 = kn := (ri_ne wh355 (.inl (cw_kne (k := b) (d := 4) (k' := 53) (d' := 0) hb4 rfl (by decide)))).trans eh345_b_3
                      clear eh345_b_3
                      have eh355_51_4 : ri_at h355 51 4 = kc := (ri_ne wh355 (.inl (by decide))).trans eh345_51_4
                      clear eh345_51_4
                      have eh355_51_6 : ri_at h355 51 6 = vc := (ri_ne wh355 (.inl (by decide))).trans eh345_51_6
                      clear eh345_51_6
                      have eh355_53_4 : ri_at h355 53 4 = (nm : Int) := (ri_ne wh355 (.inr (by decide))).trans eh345_53_4
                      clear eh345_53_4
                      have Rh355 := zrow_eq Rh345 (fun i => ri_ne wh355 (.inl (by decide)))
                      refine ex_al oq_X0_readJoint_134 gL290_0 ?_
                      refine ex_il oq_X0_readJoint_135 gL290_1 ?_
                      refine ex_cv oq_X0_readJoint_136 (by decide) Th355 (k := 53) (d := 0) (as := [cv_i x285]) (stk := []) rfl rfl rfl rfl rfl rfl ⟨rfl, rfl⟩ (R := fun o => ∃ (x : Int32) (hb : cv_H), o = (some (cv_i x), hb) ∧ cw_T G hb ∧ cw_Fr cw_Ds cw_sh kk_X0_holdKnot.2.2.2.2.2.1 h355 hb) (ct_holdKnot hb4 (hP7 _ Fh355) (a := (zsk k w)) (st := (zbi 5 st)) Th355 Rh355 eh355_53_2 eh355_b_3 (by omega) (by omega) has (fun x hb b1 b2 b3 => ⟨x, hb, rfl, b1, b2⟩)) (fun o ho9 => ?_)
                      obtain ⟨x356, h357, rfl, Th357, Ch357⟩ := ho9
                      show cw_X _ _ _ _ _ [cv_i x356] h357
                      have Fh357 : cw_Fr cw_Ds cw_sh kk_X0_readJoint.2.2.2.2.2.1 h0 h357 := cw_Fr_tr Fh355 (cw_Fr_mono (by decide +kernel) Ch357)
                      have eh357_53_3 : ri_at h357 53 3 = oc := (ri_frf Ch357 (k := 53) (d := 0) rfl rfl (by decide +kernel)).trans eh355_53_3
                      clear eh355_53_3
                      have eh357_b_2 : ri_at h357 b 2 = ((cl ++ (zbp 5 st).map zsi).length : Int) := (ri_frf Ch357 (k := b) (d := 4) hb4 rfl (by decide +kernel)).trans eh355_b_2
                      clear eh355_b_2
                      have eh357_51_4 : ri_at h357 51 4 = kc := (ri_frf Ch357 (k := 51) (d := 6) rfl rfl (by decide +kernel)).trans eh355_51_4
                      clear eh355_51_4
                      have eh357_51_6 : ri_at h357 51 6 = vc := (ri_frf Ch357 (k := 51) (d := 6) rfl rfl (by decide +kernel)).trans eh355_51_6
                      clear eh355_51_6
                      have eh357_53_4 : ri_at h357 53 4 = (nm : Int) := (ri_frf Ch357 (k := 53) (d := 0) rfl rfl (by decide +kernel)).trans eh355_53_4
                      clear eh355_53_4
                      exact ex_reti oq_X0_readJoint_139 rfl (hQ x356 h357 Th357 Fh357 (.inr ⟨eh357_53_4, .inr ⟨by omega, hs0, (by rw [if_pos (show zrk (zsk k w) = 4 by omega)]; exact eh357_b_2), (by rw [if_pos (show zrk (zsk k w) = 4 by omega)]; exact zNm_eq mh315 (fun i => ((ri_frr Ch357 (k := (b + 2)) (d := 29) hk2 rfl (by decide +kernel)).trans ((ri_ne wh355 (.inl (cw_kne (k := (b + 2)) (d := 29) (k' := 53) (d' := 0) hk2 rfl (by decide)))).trans (ri_ne wh345 (.inl (cw_kne (k := (b + 2)) (d := 29) (k' := 53) (d' := 0) hk2 rfl (by decide))))))))⟩⟩))
                    · refine ex_ic oq_X0_readJoint_126 (m := 1) (by decide) (fun x358 hx358 => ?_)
                      refine ex_go oq_X0_readJoint_127 (t := 131) rfl rfl ?_
                      refine ex_pfb oq_X0_readJoint_131 Th345 (k := 53) (d := 0) rfl rfl rfl (by omega) (by omega) (fun h359 Th359 wh359 => ?_)
                      have Fh359 : cw_Fr cw_Ds cw_sh kk_X0_readJoint.2.2.2.2.2.1 h0 h359 := cw_Fr_tr Fh345 (cw_Fr_wrf wh359 (k := 53) (d := 0) rfl rfl (by decide +kernel))
                      have eh359_53_2 : ri_at h359 53 2 = ((zbi 5 st).length : Int) := (ri_ne wh359 (.inr (by decide))).trans eh345_53_2
                      clear eh345_53_2
                      have eh359_53_3 : ri_at h359 53 3 = oc := (ri_ne wh359 (.inr (by decide))).trans eh345_53_3
                      clear eh345_53_3
                      have eh359_b_2 : ri_at h359 b 2 = ((cl ++ (zbp 5 st).map zsi).length : Int) := (ri_ne wh359 (.inl (cw_kne (k := b) (d := 4) (k' := 53) (d' := 0) hb4 rfl (by decide)))).trans eh345_b_2
                      clear eh345_b_2
                      have eh359_b_3 : ri_at h359 b 3 = kn := (ri_ne wh359 (.inl (cw_kne (k := b) (d := 4) (k' := 53) (d' := 0) hb4 rfl (by decide)))).trans eh345_b_3
                      clear eh345_b_3
                      have eh359_51_4 : ri_at h359 51 4 = kc := (ri_ne wh359 (.inl (by decide))).trans eh345_51_4
                      clear eh345_51_4
                      have eh359_51_6 : ri_at h359 51 6 = vc := (ri_ne wh359 (.inl (by decide))).trans eh345_51_6
                      clear eh345_51_6
                      have eh359_53_4 : ri_at h359 53 4 = (nm : Int) := (ri_ne wh359 (.inr (by decide))).trans eh345_53_4
                      clear eh345_53_4
                      have Rh359 := zrow_eq Rh345 (fun i => ri_ne wh359 (.inl (by decide)))
                      refine ex_al oq_X0_readJoint_134 gL290_0 ?_
                      refine ex_il oq_X0_readJoint_135 gL290_1 ?_
                      refine ex_cv oq_X0_readJoint_136 (by decide) Th359 (k := 53) (d := 0) (as := [cv_i x285]) (stk := []) rfl rfl rfl rfl rfl rfl ⟨rfl, rfl⟩ (R := fun o => ∃ (x : Int32) (hb : cv_H), o = (some (cv_i x), hb) ∧ cw_T G hb ∧ cw_Fr cw_Ds cw_sh kk_X0_holdKnot.2.2.2.2.2.1 h359 hb) (ct_holdKnot hb4 (hP7 _ Fh359) (a := (zsk k w)) (st := (zbi 5 st)) Th359 Rh359 eh359_53_2 eh359_b_3 (by omega) (by omega) has (fun x hb b1 b2 b3 => ⟨x, hb, rfl, b1, b2⟩)) (fun o ho9 => ?_)
                      obtain ⟨x360, h361, rfl, Th361, Ch361⟩ := ho9
                      show cw_X _ _ _ _ _ [cv_i x360] h361
                      have Fh361 : cw_Fr cw_Ds cw_sh kk_X0_readJoint.2.2.2.2.2.1 h0 h361 := cw_Fr_tr Fh359 (cw_Fr_mono (by decide +kernel) Ch361)
                      have eh361_53_3 : ri_at h361 53 3 = oc := (ri_frf Ch361 (k := 53) (d := 0) rfl rfl (by decide +kernel)).trans eh359_53_3
                      clear eh359_53_3
                      have eh361_b_2 : ri_at h361 b 2 = ((cl ++ (zbp 5 st).map zsi).length : Int) := (ri_frf Ch361 (k := b) (d := 4) hb4 rfl (by decide +kernel)).trans eh359_b_2
                      clear eh359_b_2
                      have eh361_51_4 : ri_at h361 51 4 = kc := (ri_frf Ch361 (k := 51) (d := 6) rfl rfl (by decide +kernel)).trans eh359_51_4
                      clear eh359_51_4
                      have eh361_51_6 : ri_at h361 51 6 = vc := (ri_frf Ch361 (k := 51) (d := 6) rfl rfl (by decide +kernel)).trans eh359_51_6
                      clear eh359_51_6
                      have eh361_53_4 : ri_at h361 53 4 = (nm : Int) := (ri_frf Ch361 (k := 53) (d := 0) rfl rfl (by decide +kernel)).trans eh359_53_4
                      clear eh359_53_4
                      exact ex_reti oq_X0_readJoint_139 rfl (hQ x360 h361 Th361 Fh361 (.inr ⟨eh361_53_4, .inr ⟨by omega, hs0, (by rw [if_pos (show zrk (zsk k w) = 4 by omega)]; exact eh361_b_2), (by rw [if_pos (show zrk (zsk k w) = 4 by omega)]; exact zNm_eq mh315 (fun i => ((ri_frr Ch361 (k := (b + 2)) (d := 29) hk2 rfl (by decide +kernel)).trans ((ri_ne wh359 (.inl (cw_kne (k := (b + 2)) (d := 29) (k' := 53) (d' := 0) hk2 rfl (by decide)))).trans (ri_ne wh345 (.inl (cw_kne (k := (b + 2)) (d := 29) (k' := 53) (d' := 0) hk2 rfl (by decide))))))))⟩⟩))
                · refine ex_ic oq_X0_readJoint_104 (m := 1) (by decide) (fun x362 hx362 => ?_)
                  exact ex_reti oq_X0_readJoint_105 rfl (hQ x362 h315 Th315 Fh315 (.inl (by omega)))
      · refine ex_ic oq_X0_readJoint_60 (m := 1) (by decide) (fun x363 hx363 => ?_)
        exact ex_reti oq_X0_readJoint_61 rfl (hQ x363 h0 hT Fh0 (.inl (by omega)))
    · refine ex_al oq_X0_readJoint_19 rfl ?_
      refine ex_ic oq_X0_readJoint_20 (m := 0) (by decide) (fun x364 hx364 => ?_)
      have hlh365 : (if x364.toInt = 0 then 1 else x364.toInt) = 1 := by split <;> omega
      refine ex_cv oq_X0_readJoint_21 (by decide) hT (k := 53) (d := 0) (as := [cv_i x364]) (stk := []) rfl rfl rfl rfl rfl rfl ⟨rfl, rfl⟩ (R := fun o => ∃ hb : cv_H, o = (none, hb) ∧ cw_T G hb ∧ cw_Fr cw_Ds cw_sh kk_X0_release.2.2.2.2.2.1 h0 hb ∧ zrow hb 54 ((zbi 1 st).map zsi) ∧ ri_at hb 53 2 = (zbi 1 st).length ∧ zNm hb (b + 2) 0 (cl ++ (zbp 1 st).map zsi) ∧ ri_at hb b 2 = (cl ++ (zbp 1 st).map zsi).length) (ct_releaseD hb4 hk2 (hP7 _ Fh0) (hP1 _ Fh0) (R := x364) (kn := kn) (st := st) (cl := cl) hT hk64 (by omega) ho hrw hhc hcc hco (by omega) (zNm_eq hcl (fun i => rfl)) (fun hb b1 b2 b3 b4 b5 b6 b7 b8 => by rw [hlh365] at b3 b4 b7 b8; exact ⟨hb, rfl, b1, b2, b3, b4, b7, b8⟩)) (fun o ho9 => ?_)
      obtain ⟨h365, rfl, Th365, Ch365, Rh365, ch365, mh365, nh365⟩ := ho9
      show cw_X _ _ _ _ _ [] h365
      have Fh365 : cw_Fr cw_Ds cw_sh kk_X0_readJoint.2.2.2.2.2.1 h0 h365 := cw_Fr_tr Fh0 (cw_Fr_mono (by decide +kernel) Ch365)
      have eh365_53_3 : ri_at h365 53 3 = oc := (ri_frf Ch365 (k := 53) (d := 0) rfl rfl (by decide +kernel)).trans hop
      have eh365_b_3 : ri_at h365 b 3 = kn := (ri_frf Ch365 (k := b) (d := 4) hb4 rfl (by decide +kernel)).trans hkn
      have eh365_51_4 : ri_at h365 51 4 = kc := (ri_frf Ch365 (k := 51) (d := 6) rfl rfl (by decide +kernel)).trans hk
      have eh365_51_6 : ri_at h365 51 6 = vc := (ri_frf Ch365 (k := 51) (d := 6) rfl rfl (by decide +kernel)).trans hv
      have eh365_53_4 : ri_at h365 53 4 = (nm : Int) := (ri_frf Ch365 (k := 53) (d := 0) rfl rfl (by decide +kernel)).trans hnm
      have hoh365 : zok (zbi 1 st) := zbi_ok ho
      have hzh365 := zc_len hoh365
      have hcsh365 : zc0 (zbi 1 st) = zc0 st := zbi_c0 (by omega)
      have hlnh365 : (zbi 1 st).length ≤ st.length := zbi_len
      refine ex_al oq_X0_readJoint_24 rfl ?_
      refine ex_ic oq_X0_readJoint_25 (m := 0) (by decide) (fun x366 hx366 => ?_)
      refine ex_al oq_X0_readJoint_26 rfl ?_
      obtain ⟨x367, ax367, rx367, lx367, ux367⟩ := ri_fld (k := 53) (d := 0) (f := 2) Th365 rfl rfl rfl
      try dsimp only at lx367 ux367
      refine ex_gf oq_X0_readJoint_27 Th365 (k := 53) (d := 0) rfl rfl ax367 ?_
      clear lx367 ux367
      have rx367 := (rx367.symm.trans ch365 : x367.toInt = ((zbi 1 st).length : Int))
      refine ex_ic oq_X0_readJoint_30 (m := 1) (by decide) (fun x368 hx368 => ?_)
      refine ex_sub oq_X0_readJoint_31 (by omega) (fun x369 hx369 => ?_)
      refine ex_max oq_X0_readJoint_32 (by decide) (Nat.le_of_ble_eq_true rfl) (fun x370 hx370 => ?_)
      refine ex_pfi oq_X0_readJoint_35 Th365 (k := 53) (d := 0) rfl rfl rfl (cw_i32 _).1 (cw_i32 _).2 (fun h371 Th371 wh371 => ?_)
      have Fh371 : cw_Fr cw_Ds cw_sh kk_X0_readJoint.2.2.2.2.2.1 h0 h371 := cw_Fr_tr Fh365 (cw_Fr_wrf wh371 (k := 53) (d := 0) rfl rfl (by decide +kernel))
      have eh371_53_2 : ri_at h371 53 2 = x370.toInt := ri_self wh371
      have eh371_53_3 : ri_at h371 53 3 = oc := (ri_ne wh371 (.inr (by decide))).trans eh365_53_3
      clear eh365_53_3
      have eh371_b_2 : ri_at h371 b 2 = ((cl ++ (zbp 1 st).map zsi).length : Int) := (ri_ne wh371 (.inl (cw_kne (k := b) (d := 4) (k' := 53) (d' := 0) hb4 rfl (by decide)))).trans nh365
      have eh371_b_3 : ri_at h371 b 3 = kn := (ri_ne wh371 (.inl (cw_kne (k := b) (d := 4) (k' := 53) (d' := 0) hb4 rfl (by decide)))).trans eh365_b_3
      clear eh365_b_3
      have eh371_51_4 : ri_at h371 51 4 = kc := (ri_ne wh371 (.inl (by decide))).trans eh365_51_4
      clear eh365_51_4
      have eh371_51_6 : ri_at h371 51 6 = vc := (ri_ne wh371 (.inl (by decide))).trans eh365_51_6
      clear eh365_51_6
      have eh371_53_4 : ri_at h371 53 4 = (nm : Int) := (ri_ne wh371 (.inr (by decide))).trans eh365_53_4
      clear eh365_53_4
      have Rh371 := zrow_eq Rh365 (fun i => ri_ne wh371 (.inl (by decide)))
      refine ex_al oq_X0_readJoint_38 rfl ?_
      refine ex_dup oq_X0_readJoint_39 rfl ?_
      obtain ⟨x372, ax372, rx372, lx372, ux372⟩ := ri_fld (k := 53) (d := 0) (f := 3) Th371 rfl rfl rfl
      try dsimp only at lx372 ux372
      refine ex_gf oq_X0_readJoint_40 Th371 (k := 53) (d := 0) rfl rfl ax372 ?_
      clear lx372 ux372
      have rx372 := (rx372.symm.trans eh371_53_3 : x372.toInt = oc)
      refine ex_ic oq_X0_readJoint_43 (m := 1) (by decide) (fun x373 hx373 => ?_)
      refine ex_sub oq_X0_readJoint_44 (by have := cw_i32 x372; omega) (fun x374 hx374 => ?_)
      refine ex_pfi oq_X0_readJoint_45 Th371 (k := 53) (d := 0) rfl rfl rfl (cw_i32 _).1 (cw_i32 _).2 (fun h375 Th375 wh375 => ?_)
      have Fh375 : cw_Fr cw_Ds cw_sh kk_X0_readJoint.2.2.2.2.2.1 h0 h375 := cw_Fr_tr Fh371 (cw_Fr_wrf wh375 (k := 53) (d := 0) rfl rfl (by decide +kernel))
      have eh375_53_2 : ri_at h375 53 2 = x370.toInt := (ri_ne wh375 (.inr (by decide))).trans eh371_53_2
      clear eh371_53_2
      have eh375_53_3 : ri_at h375 53 3 = x374.toInt := ri_self wh375
      have eh375_b_2 : ri_at h375 b 2 = ((cl ++ (zbp 1 st).map zsi).length : Int) := (ri_ne wh375 (.inl (cw_kne (k := b) (d := 4) (k' := 53) (d' := 0) hb4 rfl (by decide)))).trans eh371_b_2
      clear eh371_b_2
      have eh375_b_3 : ri_at h375 b 3 = kn := (ri_ne wh375 (.inl (cw_kne (k := b) (d := 4) (k' := 53) (d' := 0) hb4 rfl (by decide)))).trans eh371_b_3
      clear eh371_b_3
      have eh375_51_4 : ri_at h375 51 4 = kc := (ri_ne wh375 (.inl (by decide))).trans eh371_51_4
      clear eh371_51_4
      have eh375_51_6 : ri_at h375 51 6 = vc := (ri_ne wh375 (.inl (by decide))).trans eh371_51_6
      clear eh371_51_6
      have eh375_53_4 : ri_at h375 53 4 = (nm : Int) := (ri_ne wh375 (.inr (by decide))).trans eh371_53_4
      clear eh371_53_4
      have Rh375 := zrow_eq Rh371 (fun i => ri_ne wh375 (.inl (by decide)))
      refine ex_ic oq_X0_readJoint_48 (m := 0) (by decide) (fun x376 hx376 => ?_)
      exact ex_reti oq_X0_readJoint_49 rfl (hQ x376 h375 Th375 Fh375 (.inr ⟨eh375_53_4, .inl ⟨⟨by omega, by omega⟩, eh375_b_2, zNm_eq mh365 (fun i => ((ri_ne wh375 (.inl (cw_kne (k := (b + 2)) (d := 29) (k' := 53) (d' := 0) hk2 rfl (by decide)))).trans (ri_ne wh371 (.inl (cw_kne (k := (b + 2)) (d := 29) (k' := 53) (d' := 0) hk2 rfl (by decide))))))⟩⟩))
end TZ
