section
/-! ===== what formulas tell, the class: small pieces ===== -/
/-- what is written when signs are freed -/
def zbp (l : Int) : List Int → List Int
  | [] => []
  | a :: st => if l ≤ zrk a then a :: zbp l st else []
theorem zbp_y {l a : Int} {st : List Int} (h : l ≤ zrk a) : zbp l (a :: st) = a :: zbp l st := by rw [zbp, if_pos h]
theorem zbp_n {l a : Int} {st : List Int} (h : ¬ l ≤ zrk a) : zbp l (a :: st) = [] := by rw [zbp, if_neg h]
section TZ
variable {G : Int} {X : cv_X} {Q : cv_O → Prop} {t : Nat → Int}
theorem ct_addCodeD {h0 : cv_H} {s : Int32} {cl : List Int} (hT : cw_T G h0) {b : Nat} (hb4 : cw_sh[b]? = some 4) (hk2 : cw_sh[b + 2]? = some 29) (hp1 : cw_at h0 b 1 = some (cv_r (b + 2))) (hc : ri_at h0 b 2 = cl.length) (c1 : cl.length < 64) (hcl : zNm h0 (b + 2) 0 cl) {v : Int} (hv : s.toInt = v) (hQ : ∀ h', cw_T G h' → cw_Fr cw_Ds cw_sh kk_X4_addCode.2.2.2.2.2.1 h0 h' → ri_at h' b 2 = cl.length + 1 → zNm h' (b + 2) 0 (cl ++ [v]) → Q (none, h')) : cw_X X 58 Q 0 (cv_ent 0 [cv_r b, cv_i s]) [] h0 := by
  have Fh0 : cw_Fr cw_Ds cw_sh kk_X4_addCode.2.2.2.2.2.1 h0 h0 := cw_Fr_refl
  have hP1 : ∀ h, cw_Fr cw_Ds cw_sh kk_X4_addCode.2.2.2.2.2.1 h0 h → cw_at h b 1 = some (cv_r (b + 2)) := fun h F => (F.2 b 4 1 hb4 (by decide +kernel)).trans hp1
  refine ex_al oq_X4_addCode_0 rfl ?_
  obtain ⟨x11, ax11, rx11, lx11, ux11⟩ := ri_fld (k := b) (d := 4) (f := 2) hT hb4 rfl rfl
  try dsimp only at lx11 ux11
  refine ex_gf oq_X4_addCode_1 hT (k := b) (d := 4) hb4 rfl ax11 ?_
  clear lx11 ux11
  have rx11 := (rx11.symm.trans hc : x11.toInt = (cl.length : Int))
  refine ex_if0 oq_X4_addCode_4 (t := 36) rfl rfl (fun (c12 : x11.toInt < 0) => ?_) (fun (c12 : ¬ (x11.toInt < 0)) => ?_)
  · exfalso; omega
  · refine ex_al oq_X4_addCode_7 rfl ?_
    obtain ⟨x13, ax13, rx13, lx13, ux13⟩ := ri_fld (k := b) (d := 4) (f := 2) hT hb4 rfl rfl
    try dsimp only at lx13 ux13
    refine ex_gf oq_X4_addCode_8 hT (k := b) (d := 4) hb4 rfl ax13 ?_
    clear lx13 ux13
    have rx13 := (rx13.symm.trans hc : x13.toInt = (cl.length : Int))
    refine ex_bi oq_X4_addCode_11 (m := 64) (by decide) (fun x14 hx14 => ?_)
    refine ex_if oq_X4_addCode_13 (t := 36) rfl rfl (fun (c15 : x14.toInt ≤ x13.toInt) => ?_) (fun (c15 : ¬ (x14.toInt ≤ x13.toInt)) => ?_)
    · exfalso; omega
    · refine ex_al oq_X4_addCode_16 rfl ?_
      refine ex_gf oq_X4_addCode_17 hT (k := b) (d := 4) hb4 rfl ((hP1 _ Fh0)) ?_
      refine ex_al oq_X4_addCode_20 rfl ?_
      obtain ⟨x16, ax16, rx16, lx16, ux16⟩ := ri_fld (k := b) (d := 4) (f := 2) hT hb4 rfl rfl
      try dsimp only at lx16 ux16
      refine ex_gf oq_X4_addCode_21 hT (k := b) (d := 4) hb4 rfl ax16 ?_
      clear lx16 ux16
      have rx16 := (rx16.symm.trans hc : x16.toInt = (cl.length : Int))
      refine ex_il oq_X4_addCode_24 rfl ?_
      refine ex_iw1 oq_X4_addCode_25 hT (k := (b + 2)) (d := 29) (j := cl.length) hk2 rfl (by omega) (by omega) ⟨(cw_i32 _).1, (cw_i32 _).2⟩ (fun h17 Th17 wh17 => ?_)
      have Fh17 : cw_Fr cw_Ds cw_sh kk_X4_addCode.2.2.2.2.2.1 h0 h17 := cw_Fr_tr Fh0 (cw_Fr_wrr wh17 (k := (b + 2)) (d := 29) hk2 rfl (by decide +kernel))
      have eh17_b_2 : ri_at h17 b 2 = (cl.length : Int) := (ri_ne wh17 (.inl (cw_kne (k := b) (d := 4) (k' := (b + 2)) (d' := 29) hb4 hk2 (by decide)))).trans hc
      refine ex_al oq_X4_addCode_26 rfl ?_
      refine ex_dup oq_X4_addCode_27 rfl ?_
      obtain ⟨x18, ax18, rx18, lx18, ux18⟩ := ri_fld (k := b) (d := 4) (f := 2) Th17 hb4 rfl rfl
      try dsimp only at lx18 ux18
      refine ex_gf oq_X4_addCode_28 Th17 (k := b) (d := 4) hb4 rfl ax18 ?_
      clear lx18 ux18
      have rx18 := (rx18.symm.trans eh17_b_2 : x18.toInt = (cl.length : Int))
      refine ex_ic oq_X4_addCode_31 (m := 1) (by decide) (fun x19 hx19 => ?_)
      refine ex_add oq_X4_addCode_32 (by omega) (fun x20 hx20 => ?_)
      refine ex_pfi oq_X4_addCode_33 Th17 (k := b) (d := 4) hb4 rfl rfl (cw_i32 _).1 (cw_i32 _).2 (fun h21 Th21 wh21 => ?_)
      have Fh21 : cw_Fr cw_Ds cw_sh kk_X4_addCode.2.2.2.2.2.1 h0 h21 := cw_Fr_tr Fh17 (cw_Fr_wrf wh21 (k := b) (d := 4) hb4 rfl (by decide +kernel))
      have eh21_b_2 : ri_at h21 b 2 = x20.toInt := ri_self wh21
      exact ex_retv oq_X4_addCode_36 rfl (hQ h21 Th21 Fh21 (by omega) (zNm_end wh17 (zNm_eq hcl (fun i => rfl)) (fun i => (ri_ne wh21 (.inl (cw_kne (k := (b + 2)) (d := 29) (k' := b) (d' := 4) hk2 hb4 (by decide))))) (hv)))
theorem rl_lpD {h0 : cv_H} {b : Nat} (hb4 : cw_sh[b]? = some 4) (hk2 : cw_sh[b + 2]? = some 29) (hp7 : cw_at h0 53 7 = some (cv_r b)) (hp1 : cw_at h0 b 1 = some (cv_r (b + 2))) {R : Int32} {l kn : Int} {st' B : List Int} (hk64 : kn ≤ 64) (hR0 : 0 ≤ R.toInt) (hRl : l = if R.toInt = 0 then 1 else R.toInt) (hQ : ∀ h', cw_T G h' → cw_Fr cw_Ds cw_sh kk_X0_release.2.2.2.2.2.1 h0 h' → zrow h' 54 (st'.map zsi) → ri_at h' 53 2 = st'.length → ri_at h' b 2 + zcb st' + zcu st' = kn → 0 ≤ ri_at h' b 2 → zNm h' (b + 2) 0 B → ri_at h' b 2 = B.length → Q (none, h')) :
    ∀ (st cl : List Int) (L : cv_L) (h : cv_H), zok st → zbi l st = st' → cl ++ (zbp l st).map zsi = B → cw_T G h → cw_Fr cw_Ds cw_sh kk_X0_release.2.2.2.2.2.1 h0 h → zrow h 54 (st.map zsi) → ri_at h 53 2 = st.length → ri_at h b 2 = cl.length → (cl.length : Int) + zcb st + zcu st = kn → st.length ≤ 73 → zNm h (b + 2) 0 cl → cv_get L 0 = some (cv_r 53) → cv_get L 1 = some (cv_i R) → cw_X X 12 Q 0 L [] h := by
  have Fh0 : cw_Fr cw_Ds cw_sh kk_X0_release.2.2.2.2.2.1 h0 h0 := cw_Fr_refl
  have hP7 : ∀ h, cw_Fr cw_Ds cw_sh kk_X0_release.2.2.2.2.2.1 h0 h → cw_at h 53 7 = some (cv_r b) := fun h F => (F.2 53 0 7 rfl (by decide +kernel)).trans hp7
  have hP1 : ∀ h, cw_Fr cw_Ds cw_sh kk_X0_release.2.2.2.2.2.1 h0 h → cw_at h b 1 = some (cv_r (b + 2)) := fun h F => (F.2 b 4 1 hb4 (by decide +kernel)).trans hp1
  have hl1 : 1 ≤ l ∧ (R.toInt ≠ 0 → l = R.toInt) ∧ (R.toInt = 0 → l = 1) := by rw [hRl]; split <;> omega
  intro st
  induction st with
  | nil =>
    intro cl L h ho hE hB hT Fh hr hc hcc hco hl hcl g0 g1
    have hc : ri_at h 53 2 = 0 := hc
    have hc0 : 0 ≤ ri_at h b 2 := by omega
    replace hco : ri_at h b 2 + zcb ([] : List Int) + zcu ([] : List Int) = kn := by rw [hcc]; exact hco
    replace hE : ([] : List Int) = st' := hE
    refine ex_al oq_X0_release_0 g0 ?_
    obtain ⟨x101, ax101, rx101, lx101, ux101⟩ := ri_fld (k := 53) (d := 0) (f := 2) hT rfl rfl rfl
    try dsimp only at lx101 ux101
    refine ex_gf oq_X0_release_1 hT (k := 53) (d := 0) rfl rfl ax101 ?_
    clear lx101 ux101
    have rx101 := (rx101.symm.trans hc : x101.toInt = 0)
    refine ex_if0 oq_X0_release_4 (t := 42) rfl rfl (fun (c102 : x101.toInt ≤ 0) => ?_) (fun (c102 : ¬ (x101.toInt ≤ 0)) => ?_)
    · exact ex_retv oq_X0_release_42 rfl (hQ h hT Fh (by rw [← hE]; exact hr) (by rw [← hE]; exact hc) (by rw [← hE]; exact hco) hc0 (by rw [← hB, show zbp l [] = [] from rfl, List.map_nil, List.append_nil]; exact hcl) (by rw [← hB, show zbp l [] = [] from rfl, List.map_nil, List.append_nil]; exact hcc))
    · exfalso; omega
  | cons a st ih =>
    intro cl L h ho hE hB hT Fh hr hc hcc hco hl hcl g0 g1
    have hc1 : ri_at h 53 2 = (st.length : Int) + 1 := hc.trans (by rw [List.length_cons]; omega)
    have hl2 : st.length + 1 ≤ 73 := hl
    have hw0 : (cl.length : Int) + zcb (a :: st) + zcu (a :: st) = kn := hco
    have hc0 : 0 ≤ ri_at h b 2 := by omega
    replace hco : ri_at h b 2 + zcb (a :: st) + zcu (a :: st) = kn := by rw [hcc]; exact hco
    refine ex_al oq_X0_release_0 g0 ?_
    obtain ⟨x201, ax201, rx201, lx201, ux201⟩ := ri_fld (k := 53) (d := 0) (f := 2) hT rfl rfl rfl
    try dsimp only at lx201 ux201
    refine ex_gf oq_X0_release_1 hT (k := 53) (d := 0) rfl rfl ax201 ?_
    clear lx201 ux201
    have rx201 := (rx201.symm.trans hc1 : x201.toInt = (st.length : Int) + 1)
    refine ex_if0 oq_X0_release_4 (t := 42) rfl rfl (fun (c202 : x201.toInt ≤ 0) => ?_) (fun (c202 : ¬ (x201.toInt ≤ 0)) => ?_)
    · exfalso; omega
    · refine ex_al oq_X0_release_7 g0 ?_
      refine ex_cv oq_X0_release_8 (by decide) hT (k := 53) (d := 0) (as := []) (stk := []) rfl rfl rfl rfl rfl rfl ⟨rfl, rfl⟩ (R := fun o => ∃ x : Int32, o = (some (cv_i x), h) ∧ x.toInt = zsi a) (ct_latest (a := a) (st := st) hT hr (by omega) (by omega) (fun x q => ⟨x, rfl, q⟩)) (fun o ho => ?_)
      obtain ⟨x203, rfl, qx203⟩ := ho
      show cw_X _ _ _ _ _ [cv_i x203] h
      refine ex_cs oq_X0_release_11 (by decide) (as := [cv_i x203]) (stk := []) rfl rfl rfl ⟨rfl, rfl⟩ (R := fun o => ∃ x : Int32, o = (some (cv_i x), h) ∧ x.toInt = zrn x203.toInt) (ct_rankOf x203 (fun x q => ⟨x, rfl, q⟩)) (fun o ho => ?_)
      obtain ⟨x204, rfl, qx204⟩ := ho
      show cw_X _ _ _ _ _ [cv_i x204] h
      refine ex_il oq_X0_release_14 g1 ?_
      refine ex_if oq_X0_release_15 (t := 42) rfl rfl (fun (c205 : x204.toInt < R.toInt) => ?_) (fun (c205 : ¬ (x204.toInt < R.toInt)) => ?_)
      · have hz := (qx204.trans (congrArg zrn qx203)).trans (zrn_i ho.1)
        have hzb := zrk_b (k := a)
        have hza := ho.1
        have hnl : ¬ l ≤ zrk a := by split at hz <;> omega
        rw [zbi, if_neg hnl] at hE
        rw [zbp_n hnl, List.map_nil, List.append_nil] at hB
        exact ex_retv oq_X0_release_42 rfl (hQ h hT Fh (by rw [← hE]; exact hr) (by rw [← hE]; exact hc) (by rw [← hE]; exact hco) hc0 (by rw [← hB]; exact hcl) (by rw [← hB]; exact hcc))
      · have hz := (qx204.trans (congrArg zrn qx203)).trans (zrn_i ho.1)
        have hzb := zrk_b (k := a)
        have hza := ho.1
        refine ex_al oq_X0_release_18 g0 ?_
        refine ex_gf oq_X0_release_19 hT (k := 53) (d := 0) rfl rfl ((hP7 _ Fh)) ?_
        refine ex_al oq_X0_release_22 g0 ?_
        refine ex_cv oq_X0_release_23 (by decide) hT (k := 53) (d := 0) (as := []) (stk := [cv_r b]) rfl rfl rfl rfl rfl rfl ⟨rfl, rfl⟩ (R := fun o => ∃ x : Int32, o = (some (cv_i x), h) ∧ x.toInt = zsi a) (ct_latest (a := a) (st := st) hT hr (by omega) (by omega) (fun x q => ⟨x, rfl, q⟩)) (fun o ho => ?_)
        obtain ⟨x206, rfl, qx206⟩ := ho
        show cw_X _ _ _ _ _ [cv_i x206, cv_r b] h
        have ha1 : ¬ a = 0 := by intro q; rw [if_pos q] at hz; omega
        have hcx := zcz ho.1 ha1 (st := st)
        have hcn := (zc_len ho.2).2
        refine ex_cv oq_X0_release_26 (by decide) hT (k := b) (d := 4) (as := [cv_i x206]) (stk := []) hb4 rfl rfl rfl rfl rfl ⟨rfl, rfl⟩ (R := fun o => ∃ hb : cv_H, o = (none, hb) ∧ cw_T G hb ∧ cw_Fr cw_Ds cw_sh kk_X4_addCode.2.2.2.2.2.1 h hb ∧ ri_at hb b 2 = (cl).length + 1 ∧ zNm hb (b + 2) 0 (cl ++ [zsi a])) (ct_addCodeD (cl := cl) hT hb4 hk2 (hP1 _ Fh) (by omega) (by omega) (zNm_eq hcl (fun i => rfl)) (v := zsi a) (qx206) (fun hb b1 b2 b3 b4 => ⟨hb, rfl, b1, b2, b3, b4⟩)) (fun o ho => ?_)
        obtain ⟨h207, rfl, Th207, Ch207, bh207, mh207⟩ := ho
        show cw_X _ _ _ _ _ [] h207
        have Fh207 : cw_Fr cw_Ds cw_sh kk_X0_release.2.2.2.2.2.1 h0 h207 := cw_Fr_tr Fh (cw_Fr_mono (by decide +kernel) Ch207)
        have eh207_53_2 : ri_at h207 53 2 = (st.length : Int) + 1 := (ri_frf Ch207 (k := 53) (d := 0) rfl rfl (by decide +kernel)).trans hc1
        have Rh207 := zrow_eq hr (fun i => ri_frr Ch207 (k := 54) (d := 16) rfl rfl (by decide +kernel))
        refine ex_al oq_X0_release_29 g0 ?_
        refine ex_dup oq_X0_release_30 rfl ?_
        obtain ⟨x208, ax208, rx208, lx208, ux208⟩ := ri_fld (k := 53) (d := 0) (f := 2) Th207 rfl rfl rfl
        try dsimp only at lx208 ux208
        refine ex_gf oq_X0_release_31 Th207 (k := 53) (d := 0) rfl rfl ax208 ?_
        clear lx208 ux208
        have rx208 := (rx208.symm.trans eh207_53_2 : x208.toInt = (st.length : Int) + 1)
        refine ex_ic oq_X0_release_34 (m := 1) (by decide) (fun x209 hx209 => ?_)
        refine ex_sub oq_X0_release_35 (by omega) (fun x210 hx210 => ?_)
        refine ex_pfi oq_X0_release_36 Th207 (k := 53) (d := 0) rfl rfl rfl (cw_i32 _).1 (cw_i32 _).2 (fun h211 Th211 wh211 => ?_)
        have Fh211 : cw_Fr cw_Ds cw_sh kk_X0_release.2.2.2.2.2.1 h0 h211 := cw_Fr_tr Fh207 (cw_Fr_wrf wh211 (k := 53) (d := 0) rfl rfl (by decide +kernel))
        have eh211_53_2 : ri_at h211 53 2 = x210.toInt := ri_self wh211
        have eh211_b_2 : ri_at h211 b 2 = ((cl).length : Int) + 1 := (ri_ne wh211 (.inl (cw_kne (k := b) (d := 4) (k' := 53) (d' := 0) hb4 rfl (by decide)))).trans bh207
        have Rh211 := zrow_eq Rh207 (fun i => ri_ne wh211 (.inl (by decide)))
        refine ex_go oq_X0_release_39 (t := 0) rfl rfl ?_
        have ha0 : ¬ a = 0 := by intro q; rw [if_pos q] at hz; omega
        rw [if_neg ha0] at hz
        have hly : l ≤ zrk a := by omega
        rw [zbi, if_pos hly] at hE
        rw [zbp_y hly, List.map_cons] at hB
        have hcz : zcb (a :: st) + zcu (a :: st) = zcb st + zcu st + 1 := zcz ho.1 ha0
        have hlen : (cl ++ [zsi a]).length = cl.length + 1 := by rw [List.length_append]; rfl
        exact ih (cl ++ [zsi a]) L h211 ho.2 hE (by rw [← hB, List.append_assoc]; rfl) Th211 Fh211 (zrow_tail Rh211) (by omega) (by omega) (by omega) (by omega) (zNm_eq mh207 (fun i => (ri_ne wh211 (.inl (cw_kne (k := (b + 2)) (d := 29) (k' := 53) (d' := 0) hk2 rfl (by decide)))))) g0 g1
theorem ct_releaseD {h0 : cv_H} {b : Nat} (hb4 : cw_sh[b]? = some 4) (hk2 : cw_sh[b + 2]? = some 29) (hp7 : cw_at h0 53 7 = some (cv_r b)) (hp1 : cw_at h0 b 1 = some (cv_r (b + 2))) {R : Int32} {kn : Int} {st cl : List Int} (hT : cw_T G h0) (hk64 : kn ≤ 64) (hR0 : 0 ≤ R.toInt) (ho : zok st) (hr : zrow h0 54 (st.map zsi)) (hc : ri_at h0 53 2 = st.length) (hcc : ri_at h0 b 2 = cl.length) (hco : (cl.length : Int) + zcb st + zcu st = kn) (hl : st.length ≤ 73) (hcl : zNm h0 (b + 2) 0 cl) (hQ : ∀ h', cw_T G h' → cw_Fr cw_Ds cw_sh kk_X0_release.2.2.2.2.2.1 h0 h' → zrow h' 54 ((zbi (if R.toInt = 0 then 1 else R.toInt) st).map zsi) → ri_at h' 53 2 = (zbi (if R.toInt = 0 then 1 else R.toInt) st).length → ri_at h' b 2 + zcb (zbi (if R.toInt = 0 then 1 else R.toInt) st) + zcu (zbi (if R.toInt = 0 then 1 else R.toInt) st) = kn → 0 ≤ ri_at h' b 2 → zNm h' (b + 2) 0 (cl ++ (zbp (if R.toInt = 0 then 1 else R.toInt) st).map zsi) → ri_at h' b 2 = (cl ++ (zbp (if R.toInt = 0 then 1 else R.toInt) st).map zsi).length → Q (none, h')) : cw_X X 12 Q 0 (cv_ent 0 [cv_r 53, cv_i R]) [] h0 :=
  rl_lpD hb4 hk2 hp7 hp1 hk64 hR0 rfl hQ st cl _ _ ho rfl rfl hT cw_Fr_refl hr hc hcc hco hl hcl rfl rfl
end TZ
end
section
/-! ===== what formulas tell, the class: values ===== -/
theorem i32_of10 {x : Int32} {m : Nat} (h : x.toInt = m) (hm : m < 1024) : x = Int32.ofNat m := by
  apply Int32.toInt_inj.mp
  rw [h]
  have : ∀ m : Fin 1024, ((m.1 : Nat) : Int) = (Int32.ofNat m.1).toInt := by decide +kernel
  exact this ⟨m, hm⟩
theorem bt_or10 {x k o : Int32} {m j : Nat} (hx : x.toInt = m) (hm : m < 1024) (hk : k.toInt = j) (hj : j < 10) (ho : o.toInt = 1) : (x ||| (o <<< (k &&& 31))).toInt = ((m ||| 2 ^ j : Nat) : Int) := by
  rw [i32_of10 hx hm, i32_of10 (m := j) hk (by omega), i32_of10 (m := 1) ho (by omega)]
  have : ∀ m : Fin 1024, ∀ j : Fin 10, (Int32.ofNat m.1 ||| (Int32.ofNat 1 <<< (Int32.ofNat j.1 &&& 31))).toInt = ((m.1 ||| 2 ^ j.1 : Nat) : Int) := by decide +kernel
  exact this ⟨m, hm⟩ ⟨j, hj⟩
theorem bt_1024 {m j : Nat} (hm : m < 1024) (hj : j < 10) : m ||| 2 ^ j < 1024 := by
  have : ∀ j : Fin 10, 2 ^ j.1 < 2 ^ 10 := by decide
  exact Nat.or_lt_two_pow (n := 10) hm (this ⟨j, hj⟩)
/-- which name a word is -/
def zno (v : Int) : Int := if v = 24 then 0 else if v = 25 then 1 else if v = 26 then 2 else if v = 27 then 3 else if v = 17 then 4 else if v = 18 then 5 else if v = 28 then 6 else if v = 29 then 7 else if v = 13 then 8 else if v = 30 then 9 else -1
theorem zno_b {v : Int} : -1 ≤ zno v ∧ zno v ≤ 9 := by unfold zno; (repeat' split) <;> omega
section TZ
variable {G : Int} {X : cv_X} {Q : cv_O → Prop} {t : Nat → Int}
theorem ct_nameOfD {h : cv_H} (w : Int32) (hQ : ∀ x : Int32, x.toInt = zno w.toInt → Q (some (cv_i x), h)) : cw_X X 5 Q 0 (cv_ent 0 [cv_i w]) [] h := by
  refine ex_il oq_X0_nameOf_0 rfl ?_
  refine ex_tsw oq_X0_nameOf_1 rfl (fun c11 => ⟨rfl, ?_⟩) (fun i hi c11 => ?_)
  · show cw_X _ _ _ 112 _ _ _
    refine ex_ic oq_X0_nameOf_112 (m := (-1)) (by decide) (fun x12 hx12 => ?_)
    exact ex_reti oq_X0_nameOf_113 rfl (hQ x12 (by unfold zno; rw [if_neg (by omega), if_neg (by omega), if_neg (by omega), if_neg (by omega), if_neg (by omega), if_neg (by omega), if_neg (by omega), if_neg (by omega), if_neg (by omega), if_neg (by omega)]; omega))
  · match i, hi, c11 with
    | 0, _, c11 =>
      refine ⟨rfl, ?_⟩
      show cw_X _ _ _ 106 _ _ _
      refine ex_bi oq_X0_nameOf_106 (m := 8) (by decide) (fun x13 hx13 => ?_)
      exact ex_reti oq_X0_nameOf_108 rfl (hQ x13 (by rw [show w.toInt = 13 from by omega, hx13]; decide))
    | 1, _, c11 =>
      refine ⟨rfl, ?_⟩
      show cw_X _ _ _ 112 _ _ _
      refine ex_ic oq_X0_nameOf_112 (m := (-1)) (by decide) (fun x14 hx14 => ?_)
      exact ex_reti oq_X0_nameOf_113 rfl (hQ x14 (by rw [show w.toInt = 14 from by omega, hx14]; decide))
    | 2, _, c11 =>
      refine ⟨rfl, ?_⟩
      show cw_X _ _ _ 112 _ _ _
      refine ex_ic oq_X0_nameOf_112 (m := (-1)) (by decide) (fun x15 hx15 => ?_)
      exact ex_reti oq_X0_nameOf_113 rfl (hQ x15 (by rw [show w.toInt = 15 from by omega, hx15]; decide))
    | 3, _, c11 =>
      refine ⟨rfl, ?_⟩
      show cw_X _ _ _ 112 _ _ _
      refine ex_ic oq_X0_nameOf_112 (m := (-1)) (by decide) (fun x16 hx16 => ?_)
      exact ex_reti oq_X0_nameOf_113 rfl (hQ x16 (by rw [show w.toInt = 16 from by omega, hx16]; decide))
    | 4, _, c11 =>
      refine ⟨rfl, ?_⟩
      show cw_X _ _ _ 96 _ _ _
      refine ex_ic oq_X0_nameOf_96 (m := 4) (by decide) (fun x17 hx17 => ?_)
      exact ex_reti oq_X0_nameOf_97 rfl (hQ x17 (by rw [show w.toInt = 17 from by omega, hx17]; decide))
    | 5, _, c11 =>
      refine ⟨rfl, ?_⟩
      show cw_X _ _ _ 98 _ _ _
      refine ex_ic oq_X0_nameOf_98 (m := 5) (by decide) (fun x18 hx18 => ?_)
      exact ex_reti oq_X0_nameOf_99 rfl (hQ x18 (by rw [show w.toInt = 18 from by omega, hx18]; decide))
    | 6, _, c11 =>
      refine ⟨rfl, ?_⟩
      show cw_X _ _ _ 112 _ _ _
      refine ex_ic oq_X0_nameOf_112 (m := (-1)) (by decide) (fun x19 hx19 => ?_)
      exact ex_reti oq_X0_nameOf_113 rfl (hQ x19 (by rw [show w.toInt = 19 from by omega, hx19]; decide))
    | 7, _, c11 =>
      refine ⟨rfl, ?_⟩
      show cw_X _ _ _ 112 _ _ _
      refine ex_ic oq_X0_nameOf_112 (m := (-1)) (by decide) (fun x20 hx20 => ?_)
      exact ex_reti oq_X0_nameOf_113 rfl (hQ x20 (by rw [show w.toInt = 20 from by omega, hx20]; decide))
    | 8, _, c11 =>
      refine ⟨rfl, ?_⟩
      show cw_X _ _ _ 112 _ _ _
      refine ex_ic oq_X0_nameOf_112 (m := (-1)) (by decide) (fun x21 hx21 => ?_)
      exact ex_reti oq_X0_nameOf_113 rfl (hQ x21 (by rw [show w.toInt = 21 from by omega, hx21]; decide))
    | 9, _, c11 =>
      refine ⟨rfl, ?_⟩
      show cw_X _ _ _ 112 _ _ _
      refine ex_ic oq_X0_nameOf_112 (m := (-1)) (by decide) (fun x22 hx22 => ?_)
      exact ex_reti oq_X0_nameOf_113 rfl (hQ x22 (by rw [show w.toInt = 22 from by omega, hx22]; decide))
    | 10, _, c11 =>
      refine ⟨rfl, ?_⟩
      show cw_X _ _ _ 112 _ _ _
      refine ex_ic oq_X0_nameOf_112 (m := (-1)) (by decide) (fun x23 hx23 => ?_)
      exact ex_reti oq_X0_nameOf_113 rfl (hQ x23 (by rw [show w.toInt = 23 from by omega, hx23]; decide))
    | 11, _, c11 =>
      refine ⟨rfl, ?_⟩
      show cw_X _ _ _ 88 _ _ _
      refine ex_ic oq_X0_nameOf_88 (m := 0) (by decide) (fun x24 hx24 => ?_)
      exact ex_reti oq_X0_nameOf_89 rfl (hQ x24 (by rw [show w.toInt = 24 from by omega, hx24]; decide))
    | 12, _, c11 =>
      refine ⟨rfl, ?_⟩
      show cw_X _ _ _ 90 _ _ _
      refine ex_ic oq_X0_nameOf_90 (m := 1) (by decide) (fun x25 hx25 => ?_)
      exact ex_reti oq_X0_nameOf_91 rfl (hQ x25 (by rw [show w.toInt = 25 from by omega, hx25]; decide))
    | 13, _, c11 =>
      refine ⟨rfl, ?_⟩
      show cw_X _ _ _ 92 _ _ _
      refine ex_ic oq_X0_nameOf_92 (m := 2) (by decide) (fun x26 hx26 => ?_)
      exact ex_reti oq_X0_nameOf_93 rfl (hQ x26 (by rw [show w.toInt = 26 from by omega, hx26]; decide))
    | 14, _, c11 =>
      refine ⟨rfl, ?_⟩
      show cw_X _ _ _ 94 _ _ _
      refine ex_ic oq_X0_nameOf_94 (m := 3) (by decide) (fun x27 hx27 => ?_)
      exact ex_reti oq_X0_nameOf_95 rfl (hQ x27 (by rw [show w.toInt = 27 from by omega, hx27]; decide))
    | 15, _, c11 =>
      refine ⟨rfl, ?_⟩
      show cw_X _ _ _ 100 _ _ _
      refine ex_bi oq_X0_nameOf_100 (m := 6) (by decide) (fun x28 hx28 => ?_)
      exact ex_reti oq_X0_nameOf_102 rfl (hQ x28 (by rw [show w.toInt = 28 from by omega, hx28]; decide))
    | 16, _, c11 =>
      refine ⟨rfl, ?_⟩
      show cw_X _ _ _ 103 _ _ _
      refine ex_bi oq_X0_nameOf_103 (m := 7) (by decide) (fun x29 hx29 => ?_)
      exact ex_reti oq_X0_nameOf_105 rfl (hQ x29 (by rw [show w.toInt = 29 from by omega, hx29]; decide))
    | 17, _, c11 =>
      refine ⟨rfl, ?_⟩
      show cw_X _ _ _ 109 _ _ _
      refine ex_bi oq_X0_nameOf_109 (m := 9) (by decide) (fun x30 hx30 => ?_)
      exact ex_reti oq_X0_nameOf_111 rfl (hQ x30 (by rw [show w.toInt = 30 from by omega, hx30]; decide))
    | i + 18, hi, _ => exact absurd hi (by show ¬ i + 18 < 18; omega)
theorem ct_valueKnotD {h0 : cv_H} (hT : cw_T G h0) {kc vc : Int} {nm : Nat} (hk : ri_at h0 51 4 = kc) (hv : ri_at h0 51 6 = vc) (hnm : ri_at h0 53 4 = nm) (hn10 : nm < 1024) (hQ : ∀ (x : Int32) h', cw_T G h' → cw_Fr cw_Ds cw_sh kk_X0_valueKnot.2.2.2.2.2.1 h0 h' → (kc = 4 ∧ x.toInt = vc ∧ ri_at h' 53 4 = nm ∨ ¬ kc = 4 ∧ kc = 2 ∧ 0 ≤ zno vc ∧ x.toInt = 10000 + zno vc ∧ ri_at h' 53 4 = ((nm ||| 2 ^ (zno vc).toNat : Nat) : Int) ∨ x.toInt = -1) → Q (some (cv_i x), h')) : cw_X X 4 Q 0 (cv_ent 0 [cv_r 53]) [] h0 := by
  have Fh0 : cw_Fr cw_Ds cw_sh kk_X0_valueKnot.2.2.2.2.2.1 h0 h0 := cw_Fr_refl
  refine ex_al oq_X0_valueKnot_0 rfl ?_
  refine ex_gf oq_X0_valueKnot_1 hT (k := 53) (d := 0) rfl rfl (ri_ref (k := 53) (k' := 51) (d := 0) (f := 0) hT rfl rfl rfl (by decide) (ri_uniq (by decide +kernel))) ?_
  obtain ⟨x11, ax11, rx11, lx11, ux11⟩ := ri_fld (k := 51) (d := 6) (f := 4) hT rfl rfl rfl
  try dsimp only at lx11 ux11
  refine ex_gf oq_X0_valueKnot_4 hT (k := 51) (d := 6) rfl rfl ax11 ?_
  clear lx11 ux11
  have rx11 := (rx11.symm.trans hk : x11.toInt = kc)
  refine ex_ic oq_X0_valueKnot_7 (m := 4) (by decide) (fun x12 hx12 => ?_)
  refine ex_if oq_X0_valueKnot_8 (t := 19) rfl rfl (fun (c13 : ¬ x11.toInt = x12.toInt) => ?_) (fun (c13 : ¬ (¬ x11.toInt = x12.toInt)) => ?_)
  · refine ex_al oq_X0_valueKnot_19 rfl ?_
    refine ex_gf oq_X0_valueKnot_20 hT (k := 53) (d := 0) rfl rfl (ri_ref (k := 53) (k' := 51) (d := 0) (f := 0) hT rfl rfl rfl (by decide) (ri_uniq (by decide +kernel))) ?_
    obtain ⟨x14, ax14, rx14, lx14, ux14⟩ := ri_fld (k := 51) (d := 6) (f := 4) hT rfl rfl rfl
    try dsimp only at lx14 ux14
    refine ex_gf oq_X0_valueKnot_23 hT (k := 51) (d := 6) rfl rfl ax14 ?_
    clear lx14 ux14
    have rx14 := (rx14.symm.trans hk : x14.toInt = kc)
    refine ex_ic oq_X0_valueKnot_26 (m := 2) (by decide) (fun x15 hx15 => ?_)
    refine ex_if oq_X0_valueKnot_27 (t := 43) rfl rfl (fun (c16 : ¬ x14.toInt = x15.toInt) => ?_) (fun (c16 : ¬ (¬ x14.toInt = x15.toInt)) => ?_)
    · refine ex_ic oq_X0_valueKnot_43 (m := (-1)) (by decide) (fun x17 hx17 => ?_)
      refine ex_isA oq_X0_valueKnot_44 (fun L18 gL18_1 kL18 => ?_)
      have gL18_0 : cv_get L18 0 = some (cv_r 53) := kL18 0 _ (by decide) (fun _ => rfl) rfl
      refine ex_il oq_X0_valueKnot_45 gL18_1 ?_
      refine ex_ic oq_X0_valueKnot_46 (m := (-1)) (by decide) (fun x19 hx19 => ?_)
      refine ex_if oq_X0_valueKnot_47 (t := 52) rfl rfl (fun (c20 : ¬ x17.toInt = x19.toInt) => ?_) (fun (c20 : ¬ (¬ x17.toInt = x19.toInt)) => ?_)
      · exfalso; omega
      · refine ex_ic oq_X0_valueKnot_50 (m := (-1)) (by decide) (fun x21 hx21 => ?_)
        exact ex_reti oq_X0_valueKnot_51 rfl (hQ x21 h0 hT Fh0 (.inr (.inr (by omega))))
    · refine ex_al oq_X0_valueKnot_30 rfl ?_
      refine ex_gf oq_X0_valueKnot_31 hT (k := 53) (d := 0) rfl rfl (ri_ref (k := 53) (k' := 51) (d := 0) (f := 0) hT rfl rfl rfl (by decide) (ri_uniq (by decide +kernel))) ?_
      obtain ⟨x22, ax22, rx22, lx22, ux22⟩ := ri_fld (k := 51) (d := 6) (f := 6) hT rfl rfl rfl
      try dsimp only at lx22 ux22
      refine ex_gf oq_X0_valueKnot_34 hT (k := 51) (d := 6) rfl rfl ax22 ?_
      clear lx22 ux22
      have rx22 := (rx22.symm.trans hv : x22.toInt = vc)
      refine ex_cs oq_X0_valueKnot_37 (by decide) (as := [cv_i x22]) (stk := []) rfl rfl rfl ⟨rfl, rfl⟩ (R := fun o => ∃ x : Int32, o = (some (cv_i x), h0) ∧ x.toInt = zno x22.toInt) (ct_nameOfD x22 (fun x q => ⟨x, rfl, q⟩)) (fun o ho => ?_)
      obtain ⟨x23, rfl, dx23⟩ := ho
      show cw_X _ _ _ _ _ [cv_i x23] h0
      rw [show x22.toInt = vc from by omega] at dx23
      have znb := zno_b (v := vc)
      refine ex_go oq_X0_valueKnot_40 (t := 44) rfl rfl ?_
      refine ex_isA oq_X0_valueKnot_44 (fun L24 gL24_1 kL24 => ?_)
      have gL24_0 : cv_get L24 0 = some (cv_r 53) := kL24 0 _ (by decide) (fun _ => rfl) rfl
      refine ex_il oq_X0_valueKnot_45 gL24_1 ?_
      refine ex_ic oq_X0_valueKnot_46 (m := (-1)) (by decide) (fun x25 hx25 => ?_)
      refine ex_if oq_X0_valueKnot_47 (t := 52) rfl rfl (fun (c26 : ¬ x23.toInt = x25.toInt) => ?_) (fun (c26 : ¬ (¬ x23.toInt = x25.toInt)) => ?_)
      · refine ex_al oq_X0_valueKnot_52 gL24_0 ?_
        refine ex_dup oq_X0_valueKnot_53 rfl ?_
        obtain ⟨x27, ax27, rx27, lx27, ux27⟩ := ri_fld (k := 53) (d := 0) (f := 4) hT rfl rfl rfl
        try dsimp only at lx27 ux27
        refine ex_gf oq_X0_valueKnot_54 hT (k := 53) (d := 0) rfl rfl ax27 ?_
        clear lx27 ux27
        have rx27 := (rx27.symm.trans hnm : x27.toInt = (nm : Int))
        refine ex_ic oq_X0_valueKnot_57 (m := 1) (by decide) (fun x28 hx28 => ?_)
        refine ex_il oq_X0_valueKnot_58 gL24_1 ?_
        refine ex_shlE oq_X0_valueKnot_59 (fun x29 hx29 => ?_)
        refine ex_orE oq_X0_valueKnot_60 (fun x30 hx30 => ?_)
        have hor : x30.toInt = ((nm ||| 2 ^ (zno vc).toNat : Nat) : Int) := by rw [hx30, hx29]; exact bt_or10 rx27 hn10 (by omega) (by omega) hx28
        refine ex_pfi oq_X0_valueKnot_61 hT (k := 53) (d := 0) rfl rfl rfl (cw_i32 _).1 (cw_i32 _).2 (fun h31 Th31 wh31 => ?_)
        have Fh31 : cw_Fr cw_Ds cw_sh kk_X0_valueKnot.2.2.2.2.2.1 h0 h31 := cw_Fr_tr Fh0 (cw_Fr_wrf wh31 (k := 53) (d := 0) rfl rfl (by decide +kernel))
        have eh31_53_4 : ri_at h31 53 4 = x30.toInt := ri_self wh31
        refine ex_si oq_X0_valueKnot_64 (m := 10000) (by decide) (fun x32 hx32 => ?_)
        refine ex_il oq_X0_valueKnot_67 gL24_1 ?_
        refine ex_add oq_X0_valueKnot_68 (by omega) (fun x33 hx33 => ?_)
        exact ex_reti oq_X0_valueKnot_69 rfl (hQ x33 h31 Th31 Fh31 (.inr (.inl ⟨by omega, by omega, by omega, by omega, (eh31_53_4).trans hor⟩)))
      · refine ex_ic oq_X0_valueKnot_50 (m := (-1)) (by decide) (fun x34 hx34 => ?_)
        exact ex_reti oq_X0_valueKnot_51 rfl (hQ x34 h0 hT Fh0 (.inr (.inr (by omega))))
  · refine ex_al oq_X0_valueKnot_11 rfl ?_
    refine ex_gf oq_X0_valueKnot_12 hT (k := 53) (d := 0) rfl rfl (ri_ref (k := 53) (k' := 51) (d := 0) (f := 0) hT rfl rfl rfl (by decide) (ri_uniq (by decide +kernel))) ?_
    obtain ⟨x35, ax35, rx35, lx35, ux35⟩ := ri_fld (k := 51) (d := 6) (f := 6) hT rfl rfl rfl
    try dsimp only at lx35 ux35
    refine ex_gf oq_X0_valueKnot_15 hT (k := 51) (d := 6) rfl rfl ax35 ?_
    clear lx35 ux35
    have rx35 := (rx35.symm.trans hv : x35.toInt = vc)
    exact ex_reti oq_X0_valueKnot_18 rfl (hQ x35 h0 hT Fh0 (.inl ⟨by omega, by omega, hnm⟩))
set_option maxHeartbeats 8000000 in
theorem ct_readValueD {h0 : cv_H} {b : Nat} (hb4 : cw_sh[b]? = some 4) (hk2 : cw_sh[b + 2]? = some 29) (hp7 : cw_at h0 53 7 = some (cv_r b)) (hp1 : cw_at h0 b 1 = some (cv_r (b + 2))) {st cl : List Int} {kn oc kc vc : Int} {nm : Nat} (hT : cw_T G h0) (hrw : zrow h0 54 (st.map zsi)) (hhc : ri_at h0 53 2 = st.length) (hsl : st.length < 73) (hop : ri_at h0 53 3 = oc) (hoc : 0 ≤ oc) (hkn : ri_at h0 b 3 = kn) (hcc : ri_at h0 b 2 = cl.length) (hck : (cl.length : Int) ≤ kn) (hcl : zNm h0 (b + 2) 0 cl) (hnm : ri_at h0 53 4 = nm) (hn10 : nm < 1024) (hk : ri_at h0 51 4 = kc) (hv : ri_at h0 51 6 = vc)
    (hQ : ∀ (x : Int32) h', cw_T G h' → cw_Fr cw_Ds cw_sh kk_X0_readValue.2.2.2.2.2.1 h0 h' → (x.toInt ≠ 0 ∨ (ri_at h' b 2 = cl.length ∧ zNm h' (b + 2) 0 cl ∧ ri_at h' 53 4 = nm ∧ (kc = 6 ∨ kc = 2 ∧ vc = 33)) ∨ (¬ kc = 6 ∧ ¬ (kc = 2 ∧ vc = 33) ∧ (kc = 4 ∧ ri_at h' b 2 = cl.length + 1 ∧ zNm h' (b + 2) 0 (cl ++ [vc]) ∧ ri_at h' 53 4 = nm ∨ kc = 2 ∧ 0 ≤ zno vc ∧ ri_at h' b 2 = cl.length + 1 ∧ zNm h' (b + 2) 0 (cl ++ [10000 + zno vc]) ∧ ri_at h' 53 4 = ((nm ||| 2 ^ (zno vc).toNat : Nat) : Int)))) → Q (some (cv_i x), h')) : cw_X X 2 Q 0 (cv_ent 0 [cv_r 53]) [] h0 := by
  have Fh0 : cw_Fr cw_Ds cw_sh kk_X0_readValue.2.2.2.2.2.1 h0 h0 := cw_Fr_refl
  have hP7 : ∀ h, cw_Fr cw_Ds cw_sh kk_X0_readValue.2.2.2.2.2.1 h0 h → cw_at h 53 7 = some (cv_r b) := fun h F => (F.2 53 0 7 rfl (by decide +kernel)).trans hp7
  have hP1 : ∀ h, cw_Fr cw_Ds cw_sh kk_X0_readValue.2.2.2.2.2.1 h0 h → cw_at h b 1 = some (cv_r (b + 2)) := fun h F => (F.2 b 4 1 hb4 (by decide +kernel)).trans hp1
  refine ex_al oq_X0_readValue_0 rfl ?_
  refine ex_gf oq_X0_readValue_1 hT (k := 53) (d := 0) rfl rfl (ri_ref (k := 53) (k' := 51) (d := 0) (f := 0) hT rfl rfl rfl (by decide) (ri_uniq (by decide +kernel))) ?_
  obtain ⟨x101, ax101, rx101, lx101, ux101⟩ := ri_fld (k := 51) (d := 6) (f := 4) hT rfl rfl rfl
  try dsimp only at lx101 ux101
  refine ex_gf oq_X0_readValue_4 hT (k := 51) (d := 6) rfl rfl ax101 ?_
  clear lx101 ux101
  have rx101 := (rx101.symm.trans hk : x101.toInt = kc)
  refine ex_bi oq_X0_readValue_7 (m := 6) (by decide) (fun x102 hx102 => ?_)
  refine ex_if oq_X0_readValue_9 (t := 17) rfl rfl (fun (c103 : ¬ x101.toInt = x102.toInt) => ?_) (fun (c103 : ¬ (¬ x101.toInt = x102.toInt)) => ?_)
  · refine ex_al oq_X0_readValue_17 rfl ?_
    refine ex_gf oq_X0_readValue_18 hT (k := 53) (d := 0) rfl rfl (ri_ref (k := 53) (k' := 51) (d := 0) (f := 0) hT rfl rfl rfl (by decide) (ri_uniq (by decide +kernel))) ?_
    refine ex_bi oq_X0_readValue_21 (m := 33) (by decide) (fun x104 hx104 => ?_)
    refine ex_cv oq_X0_readValue_23 (by decide) hT (k := 51) (d := 6) (as := [cv_i x104]) (stk := []) rfl rfl rfl rfl rfl rfl ⟨rfl, rfl⟩ (R := fun o => ∃ x : Int32, o = (some (cv_i x), h0) ∧ (x.toInt = 1 ∧ (kc = 2 ∧ vc = x104.toInt) ∨ x.toInt = 0 ∧ ¬ (kc = 2 ∧ vc = x104.toInt))) (ct_isWord hT x104 hk hv (fun x q => ⟨x, rfl, q⟩)) (fun o ho => ?_)
    obtain ⟨x105, rfl, dx105⟩ := ho
    show cw_X _ _ _ _ _ [cv_i x105] h0
    rw [hx104] at dx105
    refine ex_if0 oq_X0_readValue_26 (t := 48) rfl rfl (fun (c106 : x105.toInt = 0) => ?_) (fun (c106 : ¬ (x105.toInt = 0)) => ?_)
    · replace dx105 := bit_n dx105 c106
      refine ex_al oq_X0_readValue_48 rfl ?_
      refine ex_cv oq_X0_readValue_49 (by decide) hT (k := 53) (d := 0) (as := []) (stk := []) rfl rfl rfl rfl rfl rfl ⟨rfl, rfl⟩ (R := fun o => ∃ (x : Int32) (hb : cv_H), o = (some (cv_i x), hb) ∧ cw_T G hb ∧ cw_Fr cw_Ds cw_sh kk_X0_valueKnot.2.2.2.2.2.1 h0 hb ∧ (kc = 4 ∧ x.toInt = vc ∧ ri_at hb 53 4 = nm ∨ ¬ kc = 4 ∧ kc = 2 ∧ 0 ≤ zno vc ∧ x.toInt = 10000 + zno vc ∧ ri_at hb 53 4 = ((nm ||| 2 ^ (zno vc).toNat : Nat) : Int) ∨ x.toInt = -1)) (ct_valueKnotD hT hk hv hnm hn10 (fun x hb b1 b2 b3 => ⟨x, hb, rfl, b1, b2, b3⟩)) (fun o ho => ?_)
      obtain ⟨x107, h108, rfl, Th108, Ch108, dx107⟩ := ho
      show cw_X _ _ _ _ _ [cv_i x107] h108
      have Fh108 : cw_Fr cw_Ds cw_sh kk_X0_readValue.2.2.2.2.2.1 h0 h108 := cw_Fr_tr Fh0 (cw_Fr_mono (by decide +kernel) Ch108)
      have eh108_53_2 : ri_at h108 53 2 = (st.length : Int) := (ri_frf Ch108 (k := 53) (d := 0) rfl rfl (by decide +kernel)).trans hhc
      have eh108_53_3 : ri_at h108 53 3 = oc := (ri_frf Ch108 (k := 53) (d := 0) rfl rfl (by decide +kernel)).trans hop
      have eh108_53_6 : ri_at h108 53 6 = ri_at h0 53 6 := ri_frf Ch108 (k := 53) (d := 0) rfl rfl (by decide +kernel)
      have eh108_b_2 : ri_at h108 b 2 = (cl.length : Int) := (ri_frf Ch108 (k := b) (d := 4) hb4 rfl (by decide +kernel)).trans hcc
      have eh108_b_3 : ri_at h108 b 3 = kn := (ri_frf Ch108 (k := b) (d := 4) hb4 rfl (by decide +kernel)).trans hkn
      have eh108_51_4 : ri_at h108 51 4 = kc := (ri_frf Ch108 (k := 51) (d := 6) rfl rfl (by decide +kernel)).trans hk
      have eh108_51_6 : ri_at h108 51 6 = vc := (ri_frf Ch108 (k := 51) (d := 6) rfl rfl (by decide +kernel)).trans hv
      replace dx107 := zhd_i dx107
      refine ex_isA oq_X0_readValue_52 (fun L109 gL109_1 kL109 => ?_)
      have gL109_0 : cv_get L109 0 = some (cv_r 53) := kL109 0 _ (by decide) (fun _ => rfl) rfl
      refine ex_il oq_X0_readValue_53 gL109_1 ?_
      refine ex_ic oq_X0_readValue_54 (m := (-1)) (by decide) (fun x110 hx110 => ?_)
      refine ex_if oq_X0_readValue_55 (t := 60) rfl rfl (fun (c111 : ¬ x107.toInt = x110.toInt) => ?_) (fun (c111 : ¬ (¬ x107.toInt = x110.toInt)) => ?_)
      · refine ex_al oq_X0_readValue_60 gL109_0 ?_
        refine ex_gf oq_X0_readValue_61 Th108 (k := 53) (d := 0) rfl rfl ((hP7 _ Fh108)) ?_
        obtain ⟨x112, ax112, rx112, lx112, ux112⟩ := ri_fld (k := b) (d := 4) (f := 3) Th108 hb4 rfl rfl
        try dsimp only at lx112 ux112
        refine ex_gf oq_X0_readValue_64 Th108 (k := b) (d := 4) hb4 rfl ax112 ?_
        clear lx112 ux112
        have rx112 := (rx112.symm.trans eh108_b_3 : x112.toInt = kn)
        refine ex_bi oq_X0_readValue_67 (m := 64) (by decide) (fun x113 hx113 => ?_)
        refine ex_if oq_X0_readValue_69 (t := 90) rfl rfl (fun (c114 : x113.toInt ≤ x112.toInt) => ?_) (fun (c114 : ¬ (x113.toInt ≤ x112.toInt)) => ?_)
        · refine ex_ic oq_X0_readValue_90 (m := 2) (by decide) (fun x115 hx115 => ?_)
          exact ex_reti oq_X0_readValue_91 rfl (hQ x115 h108 Th108 Fh108 (.inl (by omega)))
        · refine ex_al oq_X0_readValue_72 gL109_0 ?_
          refine ex_gf oq_X0_readValue_73 Th108 (k := 53) (d := 0) rfl rfl (ri_ref (k := 53) (k' := 51) (d := 0) (f := 0) Th108 rfl rfl rfl (by decide) (ri_uniq (by decide +kernel))) ?_
          obtain ⟨x116, ax116, rx116, lx116, ux116⟩ := ri_fld (k := 51) (d := 6) (f := 4) Th108 rfl rfl rfl
          try dsimp only at lx116 ux116
          refine ex_gf oq_X0_readValue_76 Th108 (k := 51) (d := 6) rfl rfl ax116 ?_
          clear lx116 ux116
          have rx116 := (rx116.symm.trans eh108_51_4 : x116.toInt = kc)
          refine ex_ic oq_X0_readValue_79 (m := 4) (by decide) (fun x117 hx117 => ?_)
          refine ex_if oq_X0_readValue_80 (t := 92) rfl rfl (fun (c118 : ¬ x116.toInt = x117.toInt) => ?_) (fun (c118 : ¬ (¬ x116.toInt = x117.toInt)) => ?_)
          · refine ex_al oq_X0_readValue_92 gL109_0 ?_
            refine ex_gf oq_X0_readValue_93 Th108 (k := 53) (d := 0) rfl rfl ((hP7 _ Fh108)) ?_
            refine ex_dup oq_X0_readValue_96 rfl ?_
            obtain ⟨x119, ax119, rx119, lx119, ux119⟩ := ri_fld (k := b) (d := 4) (f := 3) Th108 hb4 rfl rfl
            try dsimp only at lx119 ux119
            refine ex_gf oq_X0_readValue_97 Th108 (k := b) (d := 4) hb4 rfl ax119 ?_
            clear lx119 ux119
            have rx119 := (rx119.symm.trans eh108_b_3 : x119.toInt = kn)
            refine ex_ic oq_X0_readValue_100 (m := 1) (by decide) (fun x120 hx120 => ?_)
            refine ex_add oq_X0_readValue_101 (by omega) (fun x121 hx121 => ?_)
            refine ex_pfi oq_X0_readValue_102 Th108 (k := b) (d := 4) hb4 rfl rfl (cw_i32 _).1 (cw_i32 _).2 (fun h122 Th122 wh122 => ?_)
            have Fh122 : cw_Fr cw_Ds cw_sh kk_X0_readValue.2.2.2.2.2.1 h0 h122 := cw_Fr_tr Fh108 (cw_Fr_wrf wh122 (k := b) (d := 4) hb4 rfl (by decide +kernel))
            have eh122_53_2 : ri_at h122 53 2 = (st.length : Int) := (ri_ne wh122 (.inl (cw_kne (k := 53) (d := 0) (k' := b) (d' := 4) rfl hb4 (by decide)))).trans eh108_53_2
            clear eh108_53_2
            have eh122_53_3 : ri_at h122 53 3 = oc := (ri_ne wh122 (.inl (cw_kne (k := 53) (d := 0) (k' := b) (d' := 4) rfl hb4 (by decide)))).trans eh108_53_3
            clear eh108_53_3
            have eh122_53_6 : ri_at h122 53 6 = ri_at h0 53 6 := (ri_ne wh122 (.inl (cw_kne (k := 53) (d := 0) (k' := b) (d' := 4) rfl hb4 (by decide)))).trans eh108_53_6
            clear eh108_53_6
            have eh122_b_2 : ri_at h122 b 2 = (cl.length : Int) := (ri_ne wh122 (.inr (by decide))).trans eh108_b_2
            clear eh108_b_2
            have eh122_b_3 : ri_at h122 b 3 = x121.toInt := ri_self wh122
            have eh122_53_4 : ri_at h122 53 4 = ri_at h108 53 4 := ri_ne wh122 (.inl (cw_kne (k := 53) (d := 0) (k' := b) (d' := 4) rfl hb4 (by decide)))
            have eh122_51_4 : ri_at h122 51 4 = kc := (ri_ne wh122 (.inl (cw_kne (k := 51) (d := 6) (k' := b) (d' := 4) rfl hb4 (by decide)))).trans eh108_51_4
            clear eh108_51_4
            have eh122_51_6 : ri_at h122 51 6 = vc := (ri_ne wh122 (.inl (cw_kne (k := 51) (d := 6) (k' := b) (d' := 4) rfl hb4 (by decide)))).trans eh108_51_6
            clear eh108_51_6
            refine ex_al oq_X0_readValue_105 gL109_0 ?_
            refine ex_gf oq_X0_readValue_106 Th122 (k := 53) (d := 0) rfl rfl ((hP7 _ Fh122)) ?_
            refine ex_il oq_X0_readValue_109 gL109_1 ?_
            refine ex_cv oq_X0_readValue_110 (by decide) Th122 (k := b) (d := 4) (as := [cv_i x107]) (stk := []) hb4 rfl rfl rfl rfl rfl ⟨rfl, rfl⟩ (R := fun o => ∃ hb : cv_H, o = (none, hb) ∧ cw_T G hb ∧ cw_Fr cw_Ds cw_sh kk_X4_addCode.2.2.2.2.2.1 h122 hb ∧ ri_at hb b 2 = (cl).length + 1 ∧ zNm hb (b + 2) 0 (cl ++ [x107.toInt])) (ct_addCodeD (cl := cl) Th122 hb4 hk2 (hP1 _ Fh122) (by omega) (by omega) (zNm_eq hcl (fun i => ((ri_ne wh122 (.inl (cw_kne (k := (b + 2)) (d := 29) (k' := b) (d' := 4) hk2 hb4 (by decide)))).trans (ri_frr Ch108 (k := (b + 2)) (d := 29) hk2 rfl (by decide +kernel))))) (v := x107.toInt) (rfl) (fun hb b1 b2 b3 b4 => ⟨hb, rfl, b1, b2, b3, b4⟩)) (fun o ho => ?_)
            obtain ⟨h123, rfl, Th123, Ch123, bh123, mh123⟩ := ho
            show cw_X _ _ _ _ _ [] h123
            have Fh123 : cw_Fr cw_Ds cw_sh kk_X0_readValue.2.2.2.2.2.1 h0 h123 := cw_Fr_tr Fh122 (cw_Fr_mono (by decide +kernel) Ch123)
            have eh123_53_2 : ri_at h123 53 2 = (st.length : Int) := (ri_frf Ch123 (k := 53) (d := 0) rfl rfl (by decide +kernel)).trans eh122_53_2
            clear eh122_53_2
            have eh123_53_3 : ri_at h123 53 3 = oc := (ri_frf Ch123 (k := 53) (d := 0) rfl rfl (by decide +kernel)).trans eh122_53_3
            clear eh122_53_3
            have eh123_53_6 : ri_at h123 53 6 = ri_at h0 53 6 := (ri_frf Ch123 (k := 53) (d := 0) rfl rfl (by decide +kernel)).trans eh122_53_6
            clear eh122_53_6
            have eh123_b_3 : ri_at h123 b 3 = x121.toInt := (ri_frf Ch123 (k := b) (d := 4) hb4 rfl (by decide +kernel)).trans eh122_b_3
            clear eh122_b_3
            have eh123_53_4 : ri_at h123 53 4 = ri_at h108 53 4 := (ri_frf Ch123 (k := 53) (d := 0) rfl rfl (by decide +kernel)).trans eh122_53_4
            clear eh122_53_4
            have eh123_51_4 : ri_at h123 51 4 = kc := (ri_frf Ch123 (k := 51) (d := 6) rfl rfl (by decide +kernel)).trans eh122_51_4
            clear eh122_51_4
            have eh123_51_6 : ri_at h123 51 6 = vc := (ri_frf Ch123 (k := 51) (d := 6) rfl rfl (by decide +kernel)).trans eh122_51_6
            clear eh122_51_6
            refine ex_al oq_X0_readValue_113 gL109_0 ?_
            refine ex_ic oq_X0_readValue_114 (m := 0) (by decide) (fun x124 hx124 => ?_)
            refine ex_pfb oq_X0_readValue_115 Th123 (k := 53) (d := 0) rfl rfl rfl (by omega) (by omega) (fun h125 Th125 wh125 => ?_)
            have Fh125 : cw_Fr cw_Ds cw_sh kk_X0_readValue.2.2.2.2.2.1 h0 h125 := cw_Fr_tr Fh123 (cw_Fr_wrf wh125 (k := 53) (d := 0) rfl rfl (by decide +kernel))
            have eh125_53_2 : ri_at h125 53 2 = (st.length : Int) := (ri_ne wh125 (.inr (by decide))).trans eh123_53_2
            clear eh123_53_2
            have eh125_53_3 : ri_at h125 53 3 = oc := (ri_ne wh125 (.inr (by decide))).trans eh123_53_3
            clear eh123_53_3
            have eh125_53_6 : ri_at h125 53 6 = ri_at h0 53 6 := (ri_ne wh125 (.inr (by decide))).trans eh123_53_6
            clear eh123_53_6
            have eh125_b_2 : ri_at h125 b 2 = ((cl).length : Int) + 1 := (ri_ne wh125 (.inl (cw_kne (k := b) (d := 4) (k' := 53) (d' := 0) hb4 rfl (by decide)))).trans bh123
            have eh125_b_3 : ri_at h125 b 3 = x121.toInt := (ri_ne wh125 (.inl (cw_kne (k := b) (d := 4) (k' := 53) (d' := 0) hb4 rfl (by decide)))).trans eh123_b_3
            clear eh123_b_3
            have eh125_53_4 : ri_at h125 53 4 = ri_at h108 53 4 := (ri_ne wh125 (.inr (by decide))).trans eh123_53_4
            clear eh123_53_4
            have eh125_51_4 : ri_at h125 51 4 = kc := (ri_ne wh125 (.inl (by decide))).trans eh123_51_4
            clear eh123_51_4
            have eh125_51_6 : ri_at h125 51 6 = vc := (ri_ne wh125 (.inl (by decide))).trans eh123_51_6
            clear eh123_51_6
            refine ex_ic oq_X0_readValue_118 (m := 0) (by decide) (fun x126 hx126 => ?_)
            rcases zhd_e dx107 with ⟨e1, e2, e3⟩ | ⟨e1, e2, e3, e4, e5⟩ | e1
            · exact ex_reti oq_X0_readValue_119 rfl (hQ x126 h125 Th125 Fh125 (.inr (.inr ⟨by omega, by omega, .inl ⟨e1, eh125_b_2, by rw [← e2]; exact zNm_eq mh123 (fun i => (ri_ne wh125 (.inl (cw_kne (k := (b + 2)) (d := 29) (k' := 53) (d' := 0) hk2 rfl (by decide))))), (((ri_ne wh125 (.inr (by decide))).trans ((ri_frf Ch123 (k := 53) (d := 0) rfl rfl (by decide +kernel)).trans (ri_ne wh122 (.inl (cw_kne (k := 53) (d := 0) (k' := b) (d' := 4) rfl hb4 (by decide))))))).trans e3⟩⟩)))
            · exact ex_reti oq_X0_readValue_119 rfl (hQ x126 h125 Th125 Fh125 (.inr (.inr ⟨by omega, by omega, .inr ⟨e2, e3, eh125_b_2, by rw [← e4]; exact zNm_eq mh123 (fun i => (ri_ne wh125 (.inl (cw_kne (k := (b + 2)) (d := 29) (k' := 53) (d' := 0) hk2 rfl (by decide))))), (((ri_ne wh125 (.inr (by decide))).trans ((ri_frf Ch123 (k := 53) (d := 0) rfl rfl (by decide +kernel)).trans (ri_ne wh122 (.inl (cw_kne (k := 53) (d := 0) (k' := b) (d' := 4) rfl hb4 (by decide))))))).trans e5⟩⟩)))
            · exfalso; omega
          · refine ex_il oq_X0_readValue_83 gL109_1 ?_
            refine ex_si oq_X0_readValue_84 (m := 9999) (by decide) (fun x127 hx127 => ?_)
            refine ex_if oq_X0_readValue_87 (t := 92) rfl rfl (fun (c128 : x107.toInt ≤ x127.toInt) => ?_) (fun (c128 : ¬ (x107.toInt ≤ x127.toInt)) => ?_)
            · refine ex_al oq_X0_readValue_92 gL109_0 ?_
              refine ex_gf oq_X0_readValue_93 Th108 (k := 53) (d := 0) rfl rfl ((hP7 _ Fh108)) ?_
              refine ex_dup oq_X0_readValue_96 rfl ?_
              obtain ⟨x129, ax129, rx129, lx129, ux129⟩ := ri_fld (k := b) (d := 4) (f := 3) Th108 hb4 rfl rfl
              try dsimp only at lx129 ux129
              refine ex_gf oq_X0_readValue_97 Th108 (k := b) (d := 4) hb4 rfl ax129 ?_
              clear lx129 ux129
              have rx129 := (rx129.symm.trans eh108_b_3 : x129.toInt = kn)
              refine ex_ic oq_X0_readValue_100 (m := 1) (by decide) (fun x130 hx130 => ?_)
              refine ex_add oq_X0_readValue_101 (by omega) (fun x131 hx131 => ?_)
              refine ex_pfi oq_X0_readValue_102 Th108 (k := b) (d := 4) hb4 rfl rfl (cw_i32 _).1 (cw_i32 _).2 (fun h132 Th132 wh132 => ?_)
              have Fh132 : cw_Fr cw_Ds cw_sh kk_X0_readValue.2.2.2.2.2.1 h0 h132 := cw_Fr_tr Fh108 (cw_Fr_wrf wh132 (k := b) (d := 4) hb4 rfl (by decide +kernel))
              have eh132_53_2 : ri_at h132 53 2 = (st.length : Int) := (ri_ne wh132 (.inl (cw_kne (k := 53) (d := 0) (k' := b) (d' := 4) rfl hb4 (by decide)))).trans eh108_53_2
              clear eh108_53_2
              have eh132_53_3 : ri_at h132 53 3 = oc := (ri_ne wh132 (.inl (cw_kne (k := 53) (d := 0) (k' := b) (d' := 4) rfl hb4 (by decide)))).trans eh108_53_3
              clear eh108_53_3
              have eh132_53_6 : ri_at h132 53 6 = ri_at h0 53 6 := (ri_ne wh132 (.inl (cw_kne (k := 53) (d := 0) (k' := b) (d' := 4) rfl hb4 (by decide)))).trans eh108_53_6
              clear eh108_53_6
              have eh132_b_2 : ri_at h132 b 2 = (cl.length : Int) := (ri_ne wh132 (.inr (by decide))).trans eh108_b_2
              clear eh108_b_2
              have eh132_b_3 : ri_at h132 b 3 = x131.toInt := ri_self wh132
              have eh132_53_4 : ri_at h132 53 4 = ri_at h108 53 4 := ri_ne wh132 (.inl (cw_kne (k := 53) (d := 0) (k' := b) (d' := 4) rfl hb4 (by decide)))
              have eh132_51_4 : ri_at h132 51 4 = kc := (ri_ne wh132 (.inl (cw_kne (k := 51) (d := 6) (k' := b) (d' := 4) rfl hb4 (by decide)))).trans eh108_51_4
              clear eh108_51_4
              have eh132_51_6 : ri_at h132 51 6 = vc := (ri_ne wh132 (.inl (cw_kne (k := 51) (d := 6) (k' := b) (d' := 4) rfl hb4 (by decide)))).trans eh108_51_6
              clear eh108_51_6
              refine ex_al oq_X0_readValue_105 gL109_0 ?_
              refine ex_gf oq_X0_readValue_106 Th132 (k := 53) (d := 0) rfl rfl ((hP7 _ Fh132)) ?_
              refine ex_il oq_X0_readValue_109 gL109_1 ?_
              refine ex_cv oq_X0_readValue_110 (by decide) Th132 (k := b) (d := 4) (as := [cv_i x107]) (stk := []) hb4 rfl rfl rfl rfl rfl ⟨rfl, rfl⟩ (R := fun o => ∃ hb : cv_H, o = (none, hb) ∧ cw_T G hb ∧ cw_Fr cw_Ds cw_sh kk_X4_addCode.2.2.2.2.2.1 h132 hb ∧ ri_at hb b 2 = (cl).length + 1 ∧ zNm hb (b + 2) 0 (cl ++ [x107.toInt])) (ct_addCodeD (cl := cl) Th132 hb4 hk2 (hP1 _ Fh132) (by omega) (by omega) (zNm_eq hcl (fun i => ((ri_ne wh132 (.inl (cw_kne (k := (b + 2)) (d := 29) (k' := b) (d' := 4) hk2 hb4 (by decide)))).trans (ri_frr Ch108 (k := (b + 2)) (d := 29) hk2 rfl (by decide +kernel))))) (v := x107.toInt) (rfl) (fun hb b1 b2 b3 b4 => ⟨hb, rfl, b1, b2, b3, b4⟩)) (fun o ho => ?_)
              obtain ⟨h133, rfl, Th133, Ch133, bh133, mh133⟩ := ho
              show cw_X _ _ _ _ _ [] h133
              have Fh133 : cw_Fr cw_Ds cw_sh kk_X0_readValue.2.2.2.2.2.1 h0 h133 := cw_Fr_tr Fh132 (cw_Fr_mono (by decide +kernel) Ch133)
              have eh133_53_2 : ri_at h133 53 2 = (st.length : Int) := (ri_frf Ch133 (k := 53) (d := 0) rfl rfl (by decide +kernel)).trans eh132_53_2
              clear eh132_53_2
              have eh133_53_3 : ri_at h133 53 3 = oc := (ri_frf Ch133 (k := 53) (d := 0) rfl rfl (by decide +kernel)).trans eh132_53_3
              clear eh132_53_3
              have eh133_53_6 : ri_at h133 53 6 = ri_at h0 53 6 := (ri_frf Ch133 (k := 53) (d := 0) rfl rfl (by decide +kernel)).trans eh132_53_6
              clear eh132_53_6
              have eh133_b_3 : ri_at h133 b 3 = x131.toInt := (ri_frf Ch133 (k := b) (d := 4) hb4 rfl (by decide +kernel)).trans eh132_b_3
              clear eh132_b_3
              have eh133_53_4 : ri_at h133 53 4 = ri_at h108 53 4 := (ri_frf Ch133 (k := 53) (d := 0) rfl rfl (by decide +kernel)).trans eh132_53_4
              clear eh132_53_4
              have eh133_51_4 : ri_at h133 51 4 = kc := (ri_frf Ch133 (k := 51) (d := 6) rfl rfl (by decide +kernel)).trans eh132_51_4
              clear eh132_51_4
              have eh133_51_6 : ri_at h133 51 6 = vc := (ri_frf Ch133 (k := 51) (d := 6) rfl rfl (by decide +kernel)).trans eh132_51_6
              clear eh132_51_6
              refine ex_al oq_X0_readValue_113 gL109_0 ?_
              refine ex_ic oq_X0_readValue_114 (m := 0) (by decide) (fun x134 hx134 => ?_)
              refine ex_pfb oq_X0_readValue_115 Th133 (k := 53) (d := 0) rfl rfl rfl (by omega) (by omega) (fun h135 Th135 wh135 => ?_)
              have Fh135 : cw_Fr cw_Ds cw_sh kk_X0_readValue.2.2.2.2.2.1 h0 h135 := cw_Fr_tr Fh133 (cw_Fr_wrf wh135 (k := 53) (d := 0) rfl rfl (by decide +kernel))
              have eh135_53_2 : ri_at h135 53 2 = (st.length : Int) := (ri_ne wh135 (.inr (by decide))).trans eh133_53_2
              clear eh133_53_2
              have eh135_53_3 : ri_at h135 53 3 = oc := (ri_ne wh135 (.inr (by decide))).trans eh133_53_3
              clear eh133_53_3
              have eh135_53_6 : ri_at h135 53 6 = ri_at h0 53 6 := (ri_ne wh135 (.inr (by decide))).trans eh133_53_6
              clear eh133_53_6
              have eh135_b_2 : ri_at h135 b 2 = ((cl).length : Int) + 1 := (ri_ne wh135 (.inl (cw_kne (k := b) (d := 4) (k' := 53) (d' := 0) hb4 rfl (by decide)))).trans bh133
              have eh135_b_3 : ri_at h135 b 3 = x131.toInt := (ri_ne wh135 (.inl (cw_kne (k := b) (d := 4) (k' := 53) (d' := 0) hb4 rfl (by decide)))).trans eh133_b_3
              clear eh133_b_3
              have eh135_53_4 : ri_at h135 53 4 = ri_at h108 53 4 := (ri_ne wh135 (.inr (by decide))).trans eh133_53_4
              clear eh133_53_4
              have eh135_51_4 : ri_at h135 51 4 = kc := (ri_ne wh135 (.inl (by decide))).trans eh133_51_4
              clear eh133_51_4
              have eh135_51_6 : ri_at h135 51 6 = vc := (ri_ne wh135 (.inl (by decide))).trans eh133_51_6
              clear eh133_51_6
              refine ex_ic oq_X0_readValue_118 (m := 0) (by decide) (fun x136 hx136 => ?_)
              rcases zhd_e dx107 with ⟨e1, e2, e3⟩ | ⟨e1, e2, e3, e4, e5⟩ | e1
              · exact ex_reti oq_X0_readValue_119 rfl (hQ x136 h135 Th135 Fh135 (.inr (.inr ⟨by omega, by omega, .inl ⟨e1, eh135_b_2, by rw [← e2]; exact zNm_eq mh133 (fun i => (ri_ne wh135 (.inl (cw_kne (k := (b + 2)) (d := 29) (k' := 53) (d' := 0) hk2 rfl (by decide))))), (((ri_ne wh135 (.inr (by decide))).trans ((ri_frf Ch133 (k := 53) (d := 0) rfl rfl (by decide +kernel)).trans (ri_ne wh132 (.inl (cw_kne (k := 53) (d := 0) (k' := b) (d' := 4) rfl hb4 (by decide))))))).trans e3⟩⟩)))
              · exact ex_reti oq_X0_readValue_119 rfl (hQ x136 h135 Th135 Fh135 (.inr (.inr ⟨by omega, by omega, .inr ⟨e2, e3, eh135_b_2, by rw [← e4]; exact zNm_eq mh133 (fun i => (ri_ne wh135 (.inl (cw_kne (k := (b + 2)) (d := 29) (k' := 53) (d' := 0) hk2 rfl (by decide))))), (((ri_ne wh135 (.inr (by decide))).trans ((ri_frf Ch133 (k := 53) (d := 0) rfl rfl (by decide +kernel)).trans (ri_ne wh132 (.inl (cw_kne (k := 53) (d := 0) (k' := b) (d' := 4) rfl hb4 (by decide))))))).trans e5⟩⟩)))
              · exfalso; omega
            · refine ex_ic oq_X0_readValue_90 (m := 2) (by decide) (fun x137 hx137 => ?_)
              exact ex_reti oq_X0_readValue_91 rfl (hQ x137 h108 Th108 Fh108 (.inl (by omega)))
      · refine ex_ic oq_X0_readValue_58 (m := 1) (by decide) (fun x138 hx138 => ?_)
        exact ex_reti oq_X0_readValue_59 rfl (hQ x138 h108 Th108 Fh108 (.inl (by omega)))
    · replace c106 : ¬ x105.toInt = 0 := by omega
      replace dx105 := bit_y dx105 c106
      refine ex_al oq_X0_readValue_29 rfl ?_
      obtain ⟨x139, ax139, rx139, lx139, ux139⟩ := ri_fld (k := 53) (d := 0) (f := 6) hT rfl rfl rfl
      try dsimp only at lx139 ux139
      refine ex_gf oq_X0_readValue_30 hT (k := 53) (d := 0) rfl rfl ax139 ?_
      refine ex_if0 oq_X0_readValue_33 (t := 46) rfl rfl (fun (c140 : x139.toInt = 0) => ?_) (fun (c140 : ¬ (x139.toInt = 0)) => ?_)
      · refine ex_ic oq_X0_readValue_46 (m := 1) (by decide) (fun x141 hx141 => ?_)
        exact ex_reti oq_X0_readValue_47 rfl (hQ x141 h0 hT Fh0 (.inl (by omega)))
      · replace c140 : ¬ x139.toInt = 0 := by omega
        refine ex_al oq_X0_readValue_36 rfl ?_
        refine ex_si oq_X0_readValue_37 (m := 20002) (by decide) (fun x142 hx142 => ?_)
        refine ex_cv oq_X0_readValue_40 (by decide) hT (k := 53) (d := 0) (as := [cv_i x142]) (stk := []) rfl rfl rfl rfl rfl rfl ⟨rfl, rfl⟩ (R := fun o => ∃ (x : Int32) (hb : cv_H), o = (some (cv_i x), hb) ∧ cw_T G hb ∧ cw_Fr cw_Ds cw_sh kk_X0_holdKnot.2.2.2.2.2.1 h0 hb) (ct_holdKnot hb4 (hP7 _ Fh0) (a := 2) (st := st) hT hrw hhc hkn (by omega) (by omega) (by rw [hx142]; rfl) (fun x hb b1 b2 b3 => ⟨x, hb, rfl, b1, b2⟩)) (fun o ho => ?_)
        obtain ⟨x143, h144, rfl, Th144, Ch144⟩ := ho
        show cw_X _ _ _ _ _ [cv_i x143] h144
        have Fh144 : cw_Fr cw_Ds cw_sh kk_X0_readValue.2.2.2.2.2.1 h0 h144 := cw_Fr_tr Fh0 (cw_Fr_mono (by decide +kernel) Ch144)
        have eh144_53_3 : ri_at h144 53 3 = oc := (ri_frf Ch144 (k := 53) (d := 0) rfl rfl (by decide +kernel)).trans hop
        have eh144_53_6 : ri_at h144 53 6 = ri_at h0 53 6 := ri_frf Ch144 (k := 53) (d := 0) rfl rfl (by decide +kernel)
        have eh144_b_2 : ri_at h144 b 2 = (cl.length : Int) := (ri_frf Ch144 (k := b) (d := 4) hb4 rfl (by decide +kernel)).trans hcc
        have eh144_53_4 : ri_at h144 53 4 = (nm : Int) := (ri_frf Ch144 (k := 53) (d := 0) rfl rfl (by decide +kernel)).trans hnm
        have eh144_51_4 : ri_at h144 51 4 = kc := (ri_frf Ch144 (k := 51) (d := 6) rfl rfl (by decide +kernel)).trans hk
        have eh144_51_6 : ri_at h144 51 6 = vc := (ri_frf Ch144 (k := 51) (d := 6) rfl rfl (by decide +kernel)).trans hv
        refine ex_go oq_X0_readValue_43 (t := 47) rfl rfl ?_
        exact ex_reti oq_X0_readValue_47 rfl (hQ x143 h144 Th144 Fh144 (.inr (.inl ⟨eh144_b_2, zNm_eq hcl (fun i => (ri_frr Ch144 (k := (b + 2)) (d := 29) hk2 rfl (by decide +kernel))), eh144_53_4, .inr (by omega)⟩)))
  · refine ex_al oq_X0_readValue_12 rfl ?_
    refine ex_cv oq_X0_readValue_13 (by decide) hT (k := 53) (d := 0) (as := []) (stk := []) rfl rfl rfl rfl rfl rfl ⟨rfl, rfl⟩ (R := fun o => ∃ (x : Int32) (hb : cv_H), o = (some (cv_i x), hb) ∧ cw_T G hb ∧ cw_Fr cw_Ds cw_sh kk_X0_openParen.2.2.2.2.2.1 h0 hb) (ct_openParen (st := st) (c := oc) hT hrw hhc hop (by omega) (by omega) (fun x hb b1 b2 b3 => ⟨x, hb, rfl, b1, b2⟩)) (fun o ho => ?_)
    obtain ⟨x145, h146, rfl, Th146, Ch146⟩ := ho
    show cw_X _ _ _ _ _ [cv_i x145] h146
    have Fh146 : cw_Fr cw_Ds cw_sh kk_X0_readValue.2.2.2.2.2.1 h0 h146 := cw_Fr_tr Fh0 (cw_Fr_mono (by decide +kernel) Ch146)
    have eh146_b_2 : ri_at h146 b 2 = (cl.length : Int) := (ri_frf Ch146 (k := b) (d := 4) hb4 rfl (by decide +kernel)).trans hcc
    have eh146_b_3 : ri_at h146 b 3 = kn := (ri_frf Ch146 (k := b) (d := 4) hb4 rfl (by decide +kernel)).trans hkn
    have eh146_53_4 : ri_at h146 53 4 = (nm : Int) := (ri_frf Ch146 (k := 53) (d := 0) rfl rfl (by decide +kernel)).trans hnm
    have eh146_51_4 : ri_at h146 51 4 = kc := (ri_frf Ch146 (k := 51) (d := 6) rfl rfl (by decide +kernel)).trans hk
    have eh146_51_6 : ri_at h146 51 6 = vc := (ri_frf Ch146 (k := 51) (d := 6) rfl rfl (by decide +kernel)).trans hv
    exact ex_reti oq_X0_readValue_16 rfl (hQ x145 h146 Th146 Fh146 (.inr (.inl ⟨eh146_b_2, zNm_eq hcl (fun i => (ri_frr Ch146 (k := (b + 2)) (d := 29) hk2 rfl (by decide +kernel))), eh146_53_4, .inl (by omega)⟩)))
end TZ
end
