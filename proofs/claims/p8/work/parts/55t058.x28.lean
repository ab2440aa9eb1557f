/-! ===== what formulas tell, the class: small pieces ===== -/
/-- what is written when signs are freed -/
def zbp (l : Int) : List Int → List Int
  | [] => []
  | a :: st => if l ≤ zrk a then a :: zbp l st else []
theorem zbp_y {l a : Int} {st : List Int} (h : l ≤ zrk a) : zbp l (a :: st) = a :: zbp l st := by rw [zbp, if_pos h]
theorem zbp_n {l a : Int} {st : List Int} (h : ¬ l ≤ zrk a) : zbp l (a :: st) = [] := by rw [zbp, if_neg h]
section TZ
variable {G : Int} {X : cv_X} {Q : cv_O → Prop} {t : Nat → Int}
theorem ct_addCodeD {h0 : cv_H} {s : Int32} {cl : List Int} (hT : cw_T G h0) {b : Nat} (hb4 : cw_sh[b]? = some 4) (hk2 : cw_sh[b + 2]? = some 29) (hp1 : cw_at h0 b 1 = some (cv_r (b + 2))) (hc : ri_at h0 b 2 = cl.length) (c1 : cl.length < 64) (hcl : zNm h0 (b + 2) 0 cl) {v : Int} (hv : s.toInt = v) (hQ : ∀ h', cw_T G h' → cw_Fr cw_Ds cw_sh kk_X4_addCode.2.2.2.2.2.1 h0 h' → ri_at h' b 2 = cl.length + 1 → zNm h' (b + 2) 0 (cl ++ [v]) → Q (none, h')) : cw_X X 58 Q 0 (cv_ent 0 [cv_r b, cv_i s]) [] h0 := by
  have Fh0 : cw_Fr cw_Ds cw_sh kk_X4_addCode.2.2.2.2.2.1 h0 h0 := cw_Fr_refl
  have hP1 : ∀ h, cw_Fr cw_Ds cw_sh kk_X4_addCode.2.2.2.2.2.1 h0 h → cw_at h b 1 = some (cv_r (b + 2)) := fun h F => (F.2 b 4 1 hb4 (by decide +kernel)).trans hp1
  refine ex_al oq_X4_addCode_0 rfl ?_
  obtain ⟨x11, ax11, rx11, lx11, ux11⟩ := ri_fld (k := b) (d := 4) (f := 2) hT hb4 rfl rfl
  try dsimp only at lx11 ux11
  refine ex_gf oq_X4_addCode_1 hT (k := b) (d := 4) hb4 rfl ax11 ?_
  clear lx11 ux11
  have rx11 := (rx11.symm.trans hc : x11.toInt = (cl.length : Int))
  refine ex_if0 oq_X4_addCode_4 (t := 36) rfl rfl (fun (c12 : x11.toInt < 0) => ?_) (fun (c12 : ¬ (x11.toInt < 0)) => ?_)
  · exfalso; omega
  · refine ex_al oq_X4_addCode_7 rfl ?_
    obtain ⟨x13, ax13, rx13, lx13, ux13⟩ := ri_fld (k := b) (d := 4) (f := 2) hT hb4 rfl rfl
    try dsimp only at lx13 ux13
    refine ex_gf oq_X4_addCode_8 hT (k := b) (d := 4) hb4 rfl ax13 ?_
    clear lx13 ux13
    have rx13 := (rx13.symm.trans hc : x13.toInt = (cl.length : Int))
    refine ex_bi oq_X4_addCode_11 (m := 64) (by decide) (fun x14 hx14 => ?_)
    refine ex_if oq_X4_addCode_13 (t := 36) rfl rfl (fun (c15 : x14.toInt ≤ x13.toInt) => ?_) (fun (c15 : ¬ (x14.toInt ≤ x13.toInt)) => ?_)
    · exfalso; omega
    · refine ex_al oq_X4_addCode_16 rfl ?_
      refine ex_gf oq_X4_addCode_17 hT (k := b) (d := 4) hb4 rfl ((hP1 _ Fh0)) ?_
      refine ex_al oq_X4_addCode_20 rfl ?_
      obtain ⟨x16, ax16, rx16, lx16, ux16⟩ := ri_fld (k := b) (d := 4) (f := 2) hT hb4 rfl rfl
      try dsimp only at lx16 ux16
      refine ex_gf oq_X4_addCode_21 hT (k := b) (d := 4) hb4 rfl ax16 ?_
      clear lx16 ux16
      have rx16 := (rx16.symm.trans hc : x16.toInt = (cl.length : Int))
      refine ex_il oq_X4_addCode_24 rfl ?_
      refine ex_iw1 oq_X4_addCode_25 hT (k := (b + 2)) (d := 29) (j := cl.length) hk2 rfl (by omega) (by omega) ⟨(cw_i32 _).1, (cw_i32 _).2⟩ (fun h17 Th17 wh17 => ?_)
      have Fh17 : cw_Fr cw_Ds cw_sh kk_X4_addCode.2.2.2.2.2.1 h0 h17 := cw_Fr_tr Fh0 (cw_Fr_wrr wh17 (k := (b + 2)) (d := 29) hk2 rfl (by decide +kernel))
      have eh17_b_2 : ri_at h17 b 2 = (cl.length : Int) := (ri_ne wh17 (.inl (cw_kne (k := b) (d := 4) (k' := (b + 2)) (d' := 29) hb4 hk2 (by decide)))).trans hc
      refine ex_al oq_X4_addCode_26 rfl ?_
      refine ex_dup oq_X4_addCode_27 rfl ?_
      obtain ⟨x18, ax18, rx18, lx18, ux18⟩ := ri_fld (k := b) (d := 4) (f := 2) Th17 hb4 rfl rfl
      try dsimp only at lx18 ux18
      refine ex_gf oq_X4_addCode_28 Th17 (k := b) (d := 4) hb4 rfl ax18 ?_
      clear lx18 ux18
      have rx18 := (rx18.symm.trans eh17_b_2 : x18.toInt = (cl.length : Int))
      refine ex_ic oq_X4_addCode_31 (m := 1) (by decide) (fun x19 hx19 => ?_)
      refine ex_add oq_X4_addCode_32 (by omega) (fun x20 hx20 => ?_)
      refine ex_pfi oq_X4_addCode_33 Th17 (k := b) (d := 4) hb4 rfl rfl (cw_i32 _).1 (cw_i32 _).2 (fun h21 Th21 wh21 => ?_)
      have Fh21 : cw_Fr cw_Ds cw_sh kk_X4_addCode.2.2.2.2.2.1 h0 h21 := cw_Fr_tr Fh17 (cw_Fr_wrf wh21 (k := b) (d := 4) hb4 rfl (by decide +kernel))
      have eh21_b_2 : ri_at h21 b 2 = x20.toInt := ri_self wh21
      exact ex_retv oq_X4_addCode_36 rfl (hQ h21 Th21 Fh21 (by omega) (zNm_end wh17 (zNm_eq hcl (fun i => rfl)) (fun i => (ri_ne wh21 (.inl (cw_kne (k := (b + 2)) (d := 29) (k' := b) (d' := 4) hk2 hb4 (by decide))))) (hv)))
theorem rl_lpD {h0 : cv_H} {b : Nat} (hb4 : cw_sh[b]? = some 4) (hk2 : cw_sh[b + 2]? = some 29) (hp7 : cw_at h0 53 7 = some (cv_r b)) (hp1 : cw_at h0 b 1 = some (cv_r (b + 2))) {R : Int32} {l kn : Int} {st' B : List Int} (hk64 : kn ≤ 64) (hR0 : 0 ≤ R.toInt) (hRl : l = if R.toInt = 0 then 1 else R.toInt) (hQ : ∀ h', cw_T G h' → cw_Fr cw_Ds cw_sh kk_X0_release.2.2.2.2.2.1 h0 h' → zrow h' 54 (st'.map zsi) → ri_at h' 53 2 = st'.length → ri_at h' b 2 + zcb st' + zcu st' = kn → 0 ≤ ri_at h' b 2 → zNm h' (b + 2) 0 B → ri_at h' b 2 = B.length → Q (none, h')) :
    ∀ (st cl : List Int) (L : cv_L) (h : cv_H), zok st → zbi l st = st' → cl ++ (zbp l st).map zsi = B → cw_T G h → cw_Fr cw_Ds cw_sh kk_X0_release.2.2.2.2.2.1 h0 h → zrow h 54 (st.map zsi) → ri_at h 53 2 = st.length → ri_at h b 2 = cl.length → (cl.length : Int) + zcb st + zcu st = kn → st.length ≤ 73 → zNm h (b + 2) 0 cl → cv_get L 0 = some (cv_r 53) → cv_get L 1 = some (cv_i R) → cw_X X 12 Q 0 L [] h := by
  have Fh0 : cw_Fr cw_Ds cw_sh kk_X0_release.2.2.2.2.2.1 h0 h0 := cw_Fr_refl
  have hP7 : ∀ h, cw_Fr cw_Ds cw_sh kk_X0_release.2.2.2.2.2.1 h0 h → cw_at h 53 7 = some (cv_r b) := fun h F => (F.2 53 0 7 rfl (by decide +kernel)).trans hp7
  have hP1 : ∀ h, cw_Fr cw_Ds cw_sh kk_X0_release.2.2.2.2.2.1 h0 h → cw_at h b 1 = some (cv_r (b + 2)) := fun h F => (F.2 b 4 1 hb4 (by decide +kernel)).trans hp1
  have hl1 : 1 ≤ l ∧ (R.toInt ≠ 0 → l = R.toInt) ∧ (R.toInt = 0 → l = 1) := by rw [hRl]; split <;> omega
  intro st
  induction st with
  | nil =>
    intro cl L h ho hE hB hT Fh hr hc hcc hco hl hcl g0 g1
    have hc : ri_at h 53 2 = 0 := hc
    have hc0 : 0 ≤ ri_at h b 2 := by omega
    replace hco : ri_at h b 2 + zcb ([] : List Int) + zcu ([] : List Int) = kn := by rw [hcc]; exact hco
    replace hE : ([] : List Int) = st' := hE
    refine ex_al oq_X0_release_0 g0 ?_
    obtain ⟨x101, ax101, rx101, lx101, ux101⟩ := ri_fld (k := 53) (d := 0) (f := 2) hT rfl rfl rfl
    try dsimp only at lx101 ux101
    refine ex_gf oq_X0_release_1 hT (k := 53) (d := 0) rfl rfl ax101 ?_
    clear lx101 ux101
    have rx101 := (rx101.symm.trans hc : x101.toInt = 0)
    refine ex_if0 oq_X0_release_4 (t := 42) rfl rfl (fun (c102 : x101.toInt ≤ 0) => ?_) (fun (c102 : ¬ (x101.toInt ≤ 0)) => ?_)
    · exact ex_retv oq_X0_release_42 rfl (hQ h hT Fh (by rw [← hE]; exact hr) (by rw [← hE]; exact hc) (by rw [← hE]; exact hco) hc0 (by rw [← hB, show zbp l [] = [] from rfl, List.map_nil, List.append_nil]; exact hcl) (by rw [← hB, show zbp l [] = [] from rfl, List.map_nil, List.append_nil]; exact hcc))
    · exfalso; omega
  | cons a st ih =>
    intro cl L h ho hE hB hT Fh hr hc hcc hco hl hcl g0 g1
    have hc1 : ri_at h 53 2 = (st.length : Int) + 1 := hc.trans (by rw [List.length_cons]; omega)
    have hl2 : st.length + 1 ≤ 73 := hl
    have hw0 : (cl.length : Int) + zcb (a :: st) + zcu (a :: st) = kn := hco
    have hc0 : 0 ≤ ri_at h b 2 := by omega
    replace hco : ri_at h b 2 + zcb (a :: st) + zcu (a :: st) = kn := by rw [hcc]; exact hco
    refine ex_al oq_X0_release_0 g0 ?_
    obtain ⟨x201, ax201, rx201, lx201, ux201⟩ := ri_fld (k := 53) (d := 0) (f := 2) hT rfl rfl rfl
    try dsimp only at lx201 ux201
    refine ex_gf oq_X0_release_1 hT (k := 53) (d := 0) rfl rfl ax201 ?_
    clear lx201 ux201
    have rx201 := (rx201.symm.trans hc1 : x201.toInt = (st.length : Int) + 1)
    refine ex_if0 oq_X0_release_4 (t := 42) rfl rfl (fun (c202 : x201.toInt ≤ 0) => ?_) (fun (c202 : ¬ (x201.toInt ≤ 0)) => ?_)
    · exfalso; omega
    · refine ex_al oq_X0_release_7 g0 ?_
      refine ex_cv oq_X0_release_8 (by decide) hT (k := 53) (d := 0) (as := []) (stk := []) rfl rfl rfl rfl rfl rfl ⟨rfl, rfl⟩ (R := fun o => ∃ x : Int32, o = (some (cv_i x), h) ∧ x.toInt = zsi a) (ct_latest (a := a) (st := st) hT hr (by omega) (by omega) (fun x q => ⟨x, rfl, q⟩)) (fun o ho => ?_)
      obtain ⟨x203, rfl, qx203⟩ := ho
      show cw_X _ _ _ _ _ [cv_i x203] h
      refine ex_cs oq_X0_release_11 (by decide) (as := [cv_i x203]) (stk := []) rfl rfl rfl ⟨rfl, rfl⟩ (R := fun o => ∃ x : Int32, o = (some (cv_i x), h) ∧ x.toInt = zrn x203.toInt) (ct_rankOf x203 (fun x q => ⟨x, rfl, q⟩)) (fun o ho => ?_)
      obtain ⟨x204, rfl, qx204⟩ := ho
      show cw_X _ _ _ _ _ [cv_i x204] h
      refine ex_il oq_X0_release_14 g1 ?_
      refine ex_if oq_X0_release_15 (t := 42) rfl rfl (fun (c205 : x204.toInt < R.toInt) => ?_) (fun (c205 : ¬ (x204.toInt < R.toInt)) => ?_)
      · have hz := (qx204.trans (congrArg zrn qx203)).trans (zrn_i ho.1)
        have hzb := zrk_b (k := a)
        have hza := ho.1
        have hnl : ¬ l ≤ zrk a := by split at hz <;> omega
        rw [zbi, if_neg hnl] at hE
        rw [zbp_n hnl, List.map_nil, List.append_nil] at hB
        exact ex_retv oq_X0_release_42 rfl (hQ h hT Fh (by rw [← hE]; exact hr) (by rw [← hE]; exact hc) (by rw [← hE]; exact hco) hc0 (by rw [← hB]; exact hcl) (by rw [← hB]; exact hcc))
      · have hz := (qx204.trans (congrArg zrn qx203)).trans (zrn_i ho.1)
        have hzb := zrk_b (k := a)
        have hza := ho.1
        refine ex_al oq_X0_release_18 g0 ?_
        refine ex_gf oq_X0_release_19 hT (k := 53) (d := 0) rfl rfl ((hP7 _ Fh)) ?_
        refine ex_al oq_X0_release_22 g0 ?_
        refine ex_cv oq_X0_release_23 (by decide) hT (k := 53) (d := 0) (as := []) (stk := [cv_r b]) rfl rfl rfl rfl rfl rfl ⟨rfl, rfl⟩ (R := fun o => ∃ x : Int32, o = (some (cv_i x), h) ∧ x.toInt = zsi a) (ct_latest (a := a) (st := st) hT hr (by omega) (by omega) (fun x q => ⟨x, rfl, q⟩)) (fun o ho => ?_)
        obtain ⟨x206, rfl, qx206⟩ := ho
        show cw_X _ _ _ _ _ [cv_i x206, cv_r b] h
        have ha1 : ¬ a = 0 := by intro q; rw [if_pos q] at hz; omega
        have hcx := zcz ho.1 ha1 (st := st)
        have hcn := (zc_len ho.2).2
        refine ex_cv oq_X0_release_26 (by decide) hT (k := b) (d := 4) (as := [cv_i x206]) (stk := []) hb4 rfl rfl rfl rfl rfl ⟨rfl, rfl⟩ (R := fun o => ∃ hb : cv_H, o = (none, hb) ∧ cw_T G hb ∧ cw_Fr cw_Ds cw_sh kk_X4_addCode.2.2.2.2.2.1 h hb ∧ ri_at hb b 2 = (cl).length + 1 ∧ zNm hb (b + 2) 0 (cl ++ [zsi a])) (ct_addCodeD (cl := cl) hT hb4 hk2 (hP1 _ Fh) (by omega) (by omega) (zNm_eq hcl (fun i => rfl)) (v := zsi a) (qx206) (fun hb b1 b2 b3 b4 => ⟨hb, rfl, b1, b2, b3, b4⟩)) (fun o ho => ?_)
        obtain ⟨h207, rfl, Th207, Ch207, bh207, mh207⟩ := ho
        show cw_X _ _ _ _ _ [] h207
        have Fh207 : cw_Fr cw_Ds cw_sh kk_X0_release.2.2.2.2.2.1 h0 h207 := cw_Fr_tr Fh (cw_Fr_mono (by decide +kernel) Ch207)
        have eh207_53_2 : ri_at h207 53 2 = (st.length : Int) + 1 := (ri_frf Ch207 (k := 53) (d := 0) rfl rfl (by decide +kernel)).trans hc1
        have Rh207 := zrow_eq hr (fun i => ri_frr Ch207 (k := 54) (d := 16) rfl rfl (by decide +kernel))
        refine ex_al oq_X0_release_29 g0 ?_
        refine ex_dup oq_X0_release_30 rfl ?_
        obtain ⟨x208, ax208, rx208, lx208, ux208⟩ := ri_fld (k := 53) (d := 0) (f := 2) Th207 rfl rfl rfl
        try dsimp only at lx208 ux208
        refine ex_gf oq_X0_release_31 Th207 (k := 53) (d := 0) rfl rfl ax208 ?_
        clear lx208 ux208
        have rx208 := (rx208.symm.trans eh207_53_2 : x208.toInt = (st.length : Int) + 1)
        refine ex_ic oq_X0_release_34 (m := 1) (by decide) (fun x209 hx209 => ?_)
        refine ex_sub oq_X0_release_35 (by omega) (fun x210 hx210 => ?_)
        refine ex_pfi oq_X0_release_36 Th207 (k := 53) (d := 0) rfl rfl rfl (cw_i32 _).1 (cw_i32 _).2 (fun h211 Th211 wh211 => ?_)
        have Fh211 : cw_Fr cw_Ds cw_sh kk_X0_release.2.2.2.2.2.1 h0 h211 := cw_Fr_tr Fh207 (cw_Fr_wrf wh211 (k := 53) (d := 0) rfl rfl (by decide +kernel))
        have eh211_53_2 : ri_at h211 53 2 = x210.toInt := ri_self wh211
        have eh211_b_2 : ri_at h211 b 2 = ((cl).length : Int) + 1 := (ri_ne wh211 (.inl (cw_kne (k := b) (d := 4) (k' := 53) (d' := 0) hb4 rfl (by decide)))).trans bh207
        have Rh211 := zrow_eq Rh207 (fun i => ri_ne wh211 (.inl (by decide)))
        refine ex_go oq_X0_release_39 (t := 0) rfl rfl ?_
        have ha0 : ¬ a = 0 := by intro q; rw [if_pos q] at hz; omega
        rw [if_neg ha0] at hz
        have hly : l ≤ zrk a := by omega
        rw [zbi, if_pos hly] at hE
        rw [zbp_y hly, List.map_cons] at hB
        have hcz : zcb (a :: st) + zcu (a :: st) = zcb st + zcu st + 1 := zcz ho.1 ha0
        have hlen : (cl ++ [zsi a]).length = cl.length + 1 := by rw [List.length_append]; rfl
        exact ih (cl ++ [zsi a]) L h211 ho.2 hE (by rw [← hB, List.append_assoc]; rfl) Th211 Fh211 (zrow_tail Rh211) (by omega) (by omega) (by omega) (by omega) (zNm_eq mh207 (fun i => (ri_ne wh211 (.inl (cw_kne (k := (b + 2)) (d := 29) (k' := 53) (d' := 0) hk2 rfl (by decide)))))) g0 g1
theorem ct_releaseD {h0 : cv_H} {b : Nat} (hb4 : cw_sh[b]? = some 4) (hk2 : cw_sh[b + 2]? = some 29) (hp7 : cw_at h0 53 7 = some (cv_r b)) (hp1 : cw_at h0 b 1 = some (cv_r (b + 2))) {R : Int32} {kn : Int} {st cl : List Int} (hT : cw_T G h0) (hk64 : kn ≤ 64) (hR0 : 0 ≤ R.toInt) (ho : zok st) (hr : zrow h0 54 (st.map zsi)) (hc : ri_at h0 53 2 = st.length) (hcc : ri_at h0 b 2 = cl.length) (hco : (cl.length : Int) + zcb st + zcu st = kn) (hl : st.length ≤ 73) (hcl : zNm h0 (b + 2) 0 cl) (hQ : ∀ h', cw_T G h' → cw_Fr cw_Ds cw_sh kk_X0_release.2.2.2.2.2.1 h0 h' → zrow h' 54 ((zbi (if R.toInt = 0 then 1 else R.toInt) st).map zsi) → ri_at h' 53 2 = (zbi (if R.toInt = 0 then 1 else R.toInt) st).length → ri_at h' b 2 + zcb (zbi (if R.toInt = 0 then 1 else R.toInt) st) + zcu (zbi (if R.toInt = 0 then 1 else R.toInt) st) = kn → 0 ≤ ri_at h' b 2 → zNm h' (b + 2) 0 (cl ++ (zbp (if R.toInt = 0 then 1 else R.toInt) st).map zsi) → ri_at h' b 2 = (cl ++ (zbp (if R.toInt = 0 then 1 else R.toInt) st).map zsi).length → Q (none, h')) : cw_X X 12 Q 0 (cv_ent 0 [cv_r 53, cv_i R]) [] h0 :=
  rl_lpD hb4 hk2 hp7 hp1 hk64 hR0 rfl hQ st cl _ _ ho rfl rfl hT cw_Fr_refl hr hc hcc hco hl hcl rfl rfl
end TZ
