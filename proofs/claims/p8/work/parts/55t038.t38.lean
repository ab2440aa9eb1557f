/-! ===== keepText: what the reference keeps of a text ===== -/
section SPZQ
variable {G : Int} {X : cv_X} {Q : cv_O → Prop}
/-- counts and names as they were read -/
def zKq (h h' : cv_H) : Prop := ri_at h' 111 12 = ri_at h 111 16 ∧ ri_at h' 111 13 = ri_at h 111 17 ∧ ri_at h' 111 14 = ri_at h 111 18 ∧ ri_at h' 111 15 = ri_at h 111 19 ∧ (∀ i, i < 4 → ri_at h' 118 i = ri_at h 118 (4 + i)) ∧ (∀ i, i < 6 → ri_at h' 121 i = ri_at h 121 (6 + i)) ∧ (∀ i, i < 6 → ri_at h' 123 i = ri_at h 123 (6 + i))
set_option maxHeartbeats 4000000 in
theorem kq_173 {h : cv_H} (hX : cw_Xok X) (hT : cw_T G h) (hP : cw_PP G h) (hQ : ∀ h', cw_T G h' → cw_PP G h' → cw_Fr cw_Ds cw_sh mk_k2 h h' → (ri_at h' 111 43 = 0 ∧ ri_at h' 111 66 = 0 ∧ ri_at h' 111 52 = 0 ∧ ri_at h' 111 53 = -1 ∧ ri_at h' 111 50 = 0) → Q (none, h')) (L : cv_L) (q0 : cv_get L 0 = some (cv_r 111)) : cw_X X 173 Q 173 L [] h := by
  have Fh : cw_Fr cw_Ds cw_sh mk_k2 h h := cw_Fr_refl
  refine ex_ic oq_X12_keepText_173 (m := 0) (by decide) (fun x1 hx1 => ?_)
  refine ex_isA oq_X12_keepText_174 (fun L2 gL2_1 kL2 => ?_)
  have gL2_0 : cv_get L2 0 = some (cv_r 111) := kL2 0 _ (by decide) (fun _ => rfl) q0
  refine ex_il oq_X12_keepText_175 gL2_1 ?_
  refine ex_ic oq_X12_keepText_176 (m := 4) (by decide) (fun x3 hx3 => ?_)
  refine ex_if oq_X12_keepText_177 (t := 207) rfl rfl (fun (c4 : x3.toInt ≤ x1.toInt) => ?_) (fun (c4 : ¬ (x3.toInt ≤ x1.toInt)) => ?_)
  · exfalso; omega
  · refine ex_al oq_X12_keepText_180 gL2_0 ?_
    refine ex_il oq_X12_keepText_181 gL2_1 ?_
    have Ph : cw_PP G h := pp_fr0 (by decide +kernel) hP Fh
    refine ex_cv oq_X12_keepText_182 (by decide) hT (k := 111) (d := 12) (as := [cv_i x1]) (stk := []) rfl rfl rfl rfl rfl rfl ⟨rfl, rfl⟩ (cw_HX hz_X12_begins rfl (cw_Xok_no2 hX) ⟨hT, Ph⟩ ⟨.inl ⟨by decide, 111, rfl, rfl⟩, ⟨_, rfl, by show (0 : Int) ≤ _; omega, by show _ ≤ (3 : Int); omega, cw_tg0⟩, trivial⟩ (fun t ht => absurd ht List.not_mem_nil)) (fun ox6 hox6 => ?_)
    obtain ⟨h5, rfl, Th5, Ph5, Ch5⟩ := po_non hox6 rfl
    show cw_X _ _ _ _ _ [] h5
    have Fh5 : cw_Fr cw_Ds cw_sh mk_k2 h h5 := cw_Fr_tr Fh (cw_Fr_mono (by decide +kernel) Ch5)
    have eh5_43 : ri_at h5 111 43 = ri_at h 111 43 := ri_frf Ch5 (d := 12) rfl rfl (by decide +kernel)
    have eh5_66 : ri_at h5 111 66 = ri_at h 111 66 := ri_frf Ch5 (d := 12) rfl rfl (by decide +kernel)
    have eh5_52 : ri_at h5 111 52 = ri_at h 111 52 := ri_frf Ch5 (d := 12) rfl rfl (by decide +kernel)
    have eh5_53 : ri_at h5 111 53 = ri_at h 111 53 := ri_frf Ch5 (d := 12) rfl rfl (by decide +kernel)
    have eh5_50 : ri_at h5 111 50 = ri_at h 111 50 := ri_frf Ch5 (d := 12) rfl rfl (by decide +kernel)
    refine ex_al oq_X12_keepText_185 gL2_0 ?_
    refine ex_gf oq_X12_keepText_186 Th5 (k := 111) (d := 12) rfl rfl (fr_state Th5) ?_
    refine ex_bi oq_X12_keepText_189 (m := 16) (by decide) (fun x7 hx7 => ?_)
    refine ex_il oq_X12_keepText_191 gL2_1 ?_
    refine ex_mul oq_X12_keepText_192 (m := 16 * x1.toInt) (by rw [hx7]) (by omega) (fun x8 hx8 => ?_)
    refine ex_al oq_X12_keepText_193 gL2_0 ?_
    refine ex_gf oq_X12_keepText_194 Th5 (k := 111) (d := 12) rfl rfl (fr_now Th5) ?_
    refine ex_ic oq_X12_keepText_197 (m := 0) (by decide) (fun x9 hx9 => ?_)
    have Ph5 : cw_PP G h5 := pp_fr0 (by decide +kernel) hP Fh5
    refine ex_cs oq_X12_keepText_198 (by decide) (as := [cv_r 130, cv_i x8, cv_r 131, cv_i x9]) (stk := []) rfl rfl rfl ⟨rfl, rfl⟩ (cw_HX hz_X12_lays_1 rfl (cw_Xok_no2 hX) ⟨Th5, Ph5⟩ ⟨.inl ⟨by decide, 130, rfl, rfl⟩, ⟨_, rfl, by show (0 : Int) ≤ _; omega, by show _ ≤ (48 : Int); omega, cw_tg0⟩, .inl ⟨by decide, 131, rfl, rfl⟩, ⟨_, rfl, by show (0 : Int) ≤ _; omega, by show _ ≤ (0 : Int); omega, cw_tg0⟩, trivial⟩ (fun t ht => absurd ht List.not_mem_nil)) (fun ox11 hox11 => ?_)
    obtain ⟨h10, rfl, Th10, Ph10, Ch10⟩ := po_non hox11 rfl
    show cw_X _ _ _ _ _ [] h10
    have Fh10 : cw_Fr cw_Ds cw_sh mk_k2 h h10 := cw_Fr_tr Fh5 (cw_Fr_mono (by decide +kernel) Ch10)
    have eh10_43 : ri_at h10 111 43 = ri_at h5 111 43 := ri_frf Ch10 (d := 12) rfl rfl (by decide +kernel)
    have eh10_66 : ri_at h10 111 66 = ri_at h5 111 66 := ri_frf Ch10 (d := 12) rfl rfl (by decide +kernel)
    have eh10_52 : ri_at h10 111 52 = ri_at h5 111 52 := ri_frf Ch10 (d := 12) rfl rfl (by decide +kernel)
    have eh10_53 : ri_at h10 111 53 = ri_at h5 111 53 := ri_frf Ch10 (d := 12) rfl rfl (by decide +kernel)
    have eh10_50 : ri_at h10 111 50 = ri_at h5 111 50 := ri_frf Ch10 (d := 12) rfl rfl (by decide +kernel)
    refine ex_incA oq_X12_keepText_201 (v := x1) (m := 1) gL2_1 (by decide) (by omega) (fun L13 x12 hx12 gL13_1 kL13 => ?_)
    have gL13_0 : cv_get L13 0 = some (cv_r 111) := kL13 0 _ (by decide) (fun _ => rfl) gL2_0
    refine ex_go oq_X12_keepText_204 (t := 175) rfl rfl ?_
    refine ex_il oq_X12_keepText_175 gL13_1 ?_
    refine ex_ic oq_X12_keepText_176 (m := 4) (by decide) (fun x14 hx14 => ?_)
    refine ex_if oq_X12_keepText_177 (t := 207) rfl rfl (fun (c15 : x14.toInt ≤ x12.toInt) => ?_) (fun (c15 : ¬ (x14.toInt ≤ x12.toInt)) => ?_)
    · exfalso; omega
    · refine ex_al oq_X12_keepText_180 gL13_0 ?_
      refine ex_il oq_X12_keepText_181 gL13_1 ?_
      have Ph10 : cw_PP G h10 := pp_fr0 (by decide +kernel) hP Fh10
      refine ex_cv oq_X12_keepText_182 (by decide) Th10 (k := 111) (d := 12) (as := [cv_i x12]) (stk := []) rfl rfl rfl rfl rfl rfl ⟨rfl, rfl⟩ (cw_HX hz_X12_begins rfl (cw_Xok_no2 hX) ⟨Th10, Ph10⟩ ⟨.inl ⟨by decide, 111, rfl, rfl⟩, ⟨_, rfl, by show (0 : Int) ≤ _; omega, by show _ ≤ (3 : Int); omega, cw_tg0⟩, trivial⟩ (fun t ht => absurd ht List.not_mem_nil)) (fun ox17 hox17 => ?_)
      obtain ⟨h16, rfl, Th16, Ph16, Ch16⟩ := po_non hox17 rfl
      show cw_X _ _ _ _ _ [] h16
      have Fh16 : cw_Fr cw_Ds cw_sh mk_k2 h h16 := cw_Fr_tr Fh10 (cw_Fr_mono (by decide +kernel) Ch16)
      have eh16_43 : ri_at h16 111 43 = ri_at h10 111 43 := ri_frf Ch16 (d := 12) rfl rfl (by decide +kernel)
      have eh16_66 : ri_at h16 111 66 = ri_at h10 111 66 := ri_frf Ch16 (d := 12) rfl rfl (by decide +kernel)
      have eh16_52 : ri_at h16 111 52 = ri_at h10 111 52 := ri_frf Ch16 (d := 12) rfl rfl (by decide +kernel)
      have eh16_53 : ri_at h16 111 53 = ri_at h10 111 53 := ri_frf Ch16 (d := 12) rfl rfl (by decide +kernel)
      have eh16_50 : ri_at h16 111 50 = ri_at h10 111 50 := ri_frf Ch16 (d := 12) rfl rfl (by decide +kernel)
      refine ex_al oq_X12_keepText_185 gL13_0 ?_
      refine ex_gf oq_X12_keepText_186 Th16 (k := 111) (d := 12) rfl rfl (fr_state Th16) ?_
      refine ex_bi oq_X12_keepText_189 (m := 16) (by decide) (fun x18 hx18 => ?_)
      refine ex_il oq_X12_keepText_191 gL13_1 ?_
      refine ex_mul oq_X12_keepText_192 (m := 16 * x12.toInt) (by rw [hx18]) (by omega) (fun x19 hx19 => ?_)
      refine ex_al oq_X12_keepText_193 gL13_0 ?_
      refine ex_gf oq_X12_keepText_194 Th16 (k := 111) (d := 12) rfl rfl (fr_now Th16) ?_
      refine ex_ic oq_X12_keepText_197 (m := 0) (by decide) (fun x20 hx20 => ?_)
      have Ph16 : cw_PP G h16 := pp_fr0 (by decide +kernel) hP Fh16
      refine ex_cs oq_X12_keepText_198 (by decide) (as := [cv_r 130, cv_i x19, cv_r 131, cv_i x20]) (stk := []) rfl rfl rfl ⟨rfl, rfl⟩ (cw_HX hz_X12_lays_1 rfl (cw_Xok_no2 hX) ⟨Th16, Ph16⟩ ⟨.inl ⟨by decide, 130, rfl, rfl⟩, ⟨_, rfl, by show (0 : Int) ≤ _; omega, by show _ ≤ (48 : Int); omega, cw_tg0⟩, .inl ⟨by decide, 131, rfl, rfl⟩, ⟨_, rfl, by show (0 : Int) ≤ _; omega, by show _ ≤ (0 : Int); omega, cw_tg0⟩, trivial⟩ (fun t ht => absurd ht List.not_mem_nil)) (fun ox22 hox22 => ?_)
      obtain ⟨h21, rfl, Th21, Ph21, Ch21⟩ := po_non hox22 rfl
      show cw_X _ _ _ _ _ [] h21
      have Fh21 : cw_Fr cw_Ds cw_sh mk_k2 h h21 := cw_Fr_tr Fh16 (cw_Fr_mono (by decide +kernel) Ch21)
      have eh21_43 : ri_at h21 111 43 = ri_at h16 111 43 := ri_frf Ch21 (d := 12) rfl rfl (by decide +kernel)
      have eh21_66 : ri_at h21 111 66 = ri_at h16 111 66 := ri_frf Ch21 (d := 12) rfl rfl (by decide +kernel)
      have eh21_52 : ri_at h21 111 52 = ri_at h16 111 52 := ri_frf Ch21 (d := 12) rfl rfl (by decide +kernel)
      have eh21_53 : ri_at h21 111 53 = ri_at h16 111 53 := ri_frf Ch21 (d := 12) rfl rfl (by decide +kernel)
      have eh21_50 : ri_at h21 111 50 = ri_at h16 111 50 := ri_frf Ch21 (d := 12) rfl rfl (by decide +kernel)
      refine ex_incA oq_X12_keepText_201 (v := x12) (m := 1) gL13_1 (by decide) (by omega) (fun L24 x23 hx23 gL24_1 kL24 => ?_)
      have gL24_0 : cv_get L24 0 = some (cv_r 111) := kL24 0 _ (by decide) (fun _ => rfl) gL13_0
      refine ex_go oq_X12_keepText_204 (t := 175) rfl rfl ?_
      refine ex_il oq_X12_keepText_175 gL24_1 ?_
      refine ex_ic oq_X12_keepText_176 (m := 4) (by decide) (fun x25 hx25 => ?_)
      refine ex_if oq_X12_keepText_177 (t := 207) rfl rfl (fun (c26 : x25.toInt ≤ x23.toInt) => ?_) (fun (c26 : ¬ (x25.toInt ≤ x23.toInt)) => ?_)
      · exfalso; omega
      · refine ex_al oq_X12_keepText_180 gL24_0 ?_
        refine ex_il oq_X12_keepText_181 gL24_1 ?_
        have Ph21 : cw_PP G h21 := pp_fr0 (by decide +kernel) hP Fh21
        refine ex_cv oq_X12_keepText_182 (by decide) Th21 (k := 111) (d := 12) (as := [cv_i x23]) (stk := []) rfl rfl rfl rfl rfl rfl ⟨rfl, rfl⟩ (cw_HX hz_X12_begins rfl (cw_Xok_no2 hX) ⟨Th21, Ph21⟩ ⟨.inl ⟨by decide, 111, rfl, rfl⟩, ⟨_, rfl, by show (0 : Int) ≤ _; omega, by show _ ≤ (3 : Int); omega, cw_tg0⟩, trivial⟩ (fun t ht => absurd ht List.not_mem_nil)) (fun ox28 hox28 => ?_)
        obtain ⟨h27, rfl, Th27, Ph27, Ch27⟩ := po_non hox28 rfl
        show cw_X _ _ _ _ _ [] h27
        have Fh27 : cw_Fr cw_Ds cw_sh mk_k2 h h27 := cw_Fr_tr Fh21 (cw_Fr_mono (by decide +kernel) Ch27)
        have eh27_43 : ri_at h27 111 43 = ri_at h21 111 43 := ri_frf Ch27 (d := 12) rfl rfl (by decide +kernel)
        have eh27_66 : ri_at h27 111 66 = ri_at h21 111 66 := ri_frf Ch27 (d := 12) rfl rfl (by decide +kernel)
        have eh27_52 : ri_at h27 111 52 = ri_at h21 111 52 := ri_frf Ch27 (d := 12) rfl rfl (by decide +kernel)
        have eh27_53 : ri_at h27 111 53 = ri_at h21 111 53 := ri_frf Ch27 (d := 12) rfl rfl (by decide +kernel)
        have eh27_50 : ri_at h27 111 50 = ri_at h21 111 50 := ri_frf Ch27 (d := 12) rfl rfl (by decide +kernel)
        refine ex_al oq_X12_keepText_185 gL24_0 ?_
        refine ex_gf oq_X12_keepText_186 Th27 (k := 111) (d := 12) rfl rfl (fr_state Th27) ?_
        refine ex_bi oq_X12_keepText_189 (m := 16) (by decide) (fun x29 hx29 => ?_)
        refine ex_il oq_X12_keepText_191 gL24_1 ?_
        refine ex_mul oq_X12_keepText_192 (m := 16 * x23.toInt) (by rw [hx29]) (by omega) (fun x30 hx30 => ?_)
        refine ex_al oq_X12_keepText_193 gL24_0 ?_
        refine ex_gf oq_X12_keepText_194 Th27 (k := 111) (d := 12) rfl rfl (fr_now Th27) ?_
        refine ex_ic oq_X12_keepText_197 (m := 0) (by decide) (fun x31 hx31 => ?_)
        have Ph27 : cw_PP G h27 := pp_fr0 (by decide +kernel) hP Fh27
        refine ex_cs oq_X12_keepText_198 (by decide) (as := [cv_r 130, cv_i x30, cv_r 131, cv_i x31]) (stk := []) rfl rfl rfl ⟨rfl, rfl⟩ (cw_HX hz_X12_lays_1 rfl (cw_Xok_no2 hX) ⟨Th27, Ph27⟩ ⟨.inl ⟨by decide, 130, rfl, rfl⟩, ⟨_, rfl, by show (0 : Int) ≤ _; omega, by show _ ≤ (48 : Int); omega, cw_tg0⟩, .inl ⟨by decide, 131, rfl, rfl⟩, ⟨_, rfl, by show (0 : Int) ≤ _; omega, by show _ ≤ (0 : Int); omega, cw_tg0⟩, trivial⟩ (fun t ht => absurd ht List.not_mem_nil)) (fun ox33 hox33 => ?_)
        obtain ⟨h32, rfl, Th32, Ph32, Ch32⟩ := po_non hox33 rfl
        show cw_X _ _ _ _ _ [] h32
        have Fh32 : cw_Fr cw_Ds cw_sh mk_k2 h h32 := cw_Fr_tr Fh27 (cw_Fr_mono (by decide +kernel) Ch32)
        have eh32_43 : ri_at h32 111 43 = ri_at h27 111 43 := ri_frf Ch32 (d := 12) rfl rfl (by decide +kernel)
        have eh32_66 : ri_at h32 111 66 = ri_at h27 111 66 := ri_frf Ch32 (d := 12) rfl rfl (by decide +kernel)
        have eh32_52 : ri_at h32 111 52 = ri_at h27 111 52 := ri_frf Ch32 (d := 12) rfl rfl (by decide +kernel)
        have eh32_53 : ri_at h32 111 53 = ri_at h27 111 53 := ri_frf Ch32 (d := 12) rfl rfl (by decide +kernel)
        have eh32_50 : ri_at h32 111 50 = ri_at h27 111 50 := ri_frf Ch32 (d := 12) rfl rfl (by decide +kernel)
        refine ex_incA oq_X12_keepText_201 (v := x23) (m := 1) gL24_1 (by decide) (by omega) (fun L35 x34 hx34 gL35_1 kL35 => ?_)
        have gL35_0 : cv_get L35 0 = some (cv_r 111) := kL35 0 _ (by decide) (fun _ => rfl) gL24_0
        refine ex_go oq_X12_keepText_204 (t := 175) rfl rfl ?_
        refine ex_il oq_X12_keepText_175 gL35_1 ?_
        refine ex_ic oq_X12_keepText_176 (m := 4) (by decide) (fun x36 hx36 => ?_)
        refine ex_if oq_X12_keepText_177 (t := 207) rfl rfl (fun (c37 : x36.toInt ≤ x34.toInt) => ?_) (fun (c37 : ¬ (x36.toInt ≤ x34.toInt)) => ?_)
        · exfalso; omega
        · refine ex_al oq_X12_keepText_180 gL35_0 ?_
          refine ex_il oq_X12_keepText_181 gL35_1 ?_
          have Ph32 : cw_PP G h32 := pp_fr0 (by decide +kernel) hP Fh32
          refine ex_cv oq_X12_keepText_182 (by decide) Th32 (k := 111) (d := 12) (as := [cv_i x34]) (stk := []) rfl rfl rfl rfl rfl rfl ⟨rfl, rfl⟩ (cw_HX hz_X12_begins rfl (cw_Xok_no2 hX) ⟨Th32, Ph32⟩ ⟨.inl ⟨by decide, 111, rfl, rfl⟩, ⟨_, rfl, by show (0 : Int) ≤ _; omega, by show _ ≤ (3 : Int); omega, cw_tg0⟩, trivial⟩ (fun t ht => absurd ht List.not_mem_nil)) (fun ox39 hox39 => ?_)
          obtain ⟨h38, rfl, Th38, Ph38, Ch38⟩ := po_non hox39 rfl
          show cw_X _ _ _ _ _ [] h38
          have Fh38 : cw_Fr cw_Ds cw_sh mk_k2 h h38 := cw_Fr_tr Fh32 (cw_Fr_mono (by decide +kernel) Ch38)
          have eh38_43 : ri_at h38 111 43 = ri_at h32 111 43 := ri_frf Ch38 (d := 12) rfl rfl (by decide +kernel)
          have eh38_66 : ri_at h38 111 66 = ri_at h32 111 66 := ri_frf Ch38 (d := 12) rfl rfl (by decide +kernel)
          have eh38_52 : ri_at h38 111 52 = ri_at h32 111 52 := ri_frf Ch38 (d := 12) rfl rfl (by decide +kernel)
          have eh38_53 : ri_at h38 111 53 = ri_at h32 111 53 := ri_frf Ch38 (d := 12) rfl rfl (by decide +kernel)
          have eh38_50 : ri_at h38 111 50 = ri_at h32 111 50 := ri_frf Ch38 (d := 12) rfl rfl (by decide +kernel)
          refine ex_al oq_X12_keepText_185 gL35_0 ?_
          refine ex_gf oq_X12_keepText_186 Th38 (k := 111) (d := 12) rfl rfl (fr_state Th38) ?_
          refine ex_bi oq_X12_keepText_189 (m := 16) (by decide) (fun x40 hx40 => ?_)
          refine ex_il oq_X12_keepText_191 gL35_1 ?_
          refine ex_mul oq_X12_keepText_192 (m := 16 * x34.toInt) (by rw [hx40]) (by omega) (fun x41 hx41 => ?_)
          refine ex_al oq_X12_keepText_193 gL35_0 ?_
          refine ex_gf oq_X12_keepText_194 Th38 (k := 111) (d := 12) rfl rfl (fr_now Th38) ?_
          refine ex_ic oq_X12_keepText_197 (m := 0) (by decide) (fun x42 hx42 => ?_)
          have Ph38 : cw_PP G h38 := pp_fr0 (by decide +kernel) hP Fh38
          refine ex_cs oq_X12_keepText_198 (by decide) (as := [cv_r 130, cv_i x41, cv_r 131, cv_i x42]) (stk := []) rfl rfl rfl ⟨rfl, rfl⟩ (cw_HX hz_X12_lays_1 rfl (cw_Xok_no2 hX) ⟨Th38, Ph38⟩ ⟨.inl ⟨by decide, 130, rfl, rfl⟩, ⟨_, rfl, by show (0 : Int) ≤ _; omega, by show _ ≤ (48 : Int); omega, cw_tg0⟩, .inl ⟨by decide, 131, rfl, rfl⟩, ⟨_, rfl, by show (0 : Int) ≤ _; omega, by show _ ≤ (0 : Int); omega, cw_tg0⟩, trivial⟩ (fun t ht => absurd ht List.not_mem_nil)) (fun ox44 hox44 => ?_)
          obtain ⟨h43, rfl, Th43, Ph43, Ch43⟩ := po_non hox44 rfl
          show cw_X _ _ _ _ _ [] h43
          have Fh43 : cw_Fr cw_Ds cw_sh mk_k2 h h43 := cw_Fr_tr Fh38 (cw_Fr_mono (by decide +kernel) Ch43)
          have eh43_43 : ri_at h43 111 43 = ri_at h38 111 43 := ri_frf Ch43 (d := 12) rfl rfl (by decide +kernel)
          have eh43_66 : ri_at h43 111 66 = ri_at h38 111 66 := ri_frf Ch43 (d := 12) rfl rfl (by decide +kernel)
          have eh43_52 : ri_at h43 111 52 = ri_at h38 111 52 := ri_frf Ch43 (d := 12) rfl rfl (by decide +kernel)
          have eh43_53 : ri_at h43 111 53 = ri_at h38 111 53 := ri_frf Ch43 (d := 12) rfl rfl (by decide +kernel)
          have eh43_50 : ri_at h43 111 50 = ri_at h38 111 50 := ri_frf Ch43 (d := 12) rfl rfl (by decide +kernel)
          refine ex_incA oq_X12_keepText_201 (v := x34) (m := 1) gL35_1 (by decide) (by omega) (fun L46 x45 hx45 gL46_1 kL46 => ?_)
          have gL46_0 : cv_get L46 0 = some (cv_r 111) := kL46 0 _ (by decide) (fun _ => rfl) gL35_0
          refine ex_go oq_X12_keepText_204 (t := 175) rfl rfl ?_
          refine ex_il oq_X12_keepText_175 gL46_1 ?_
          refine ex_ic oq_X12_keepText_176 (m := 4) (by decide) (fun x47 hx47 => ?_)
          refine ex_if oq_X12_keepText_177 (t := 207) rfl rfl (fun (c48 : x47.toInt ≤ x45.toInt) => ?_) (fun (c48 : ¬ (x47.toInt ≤ x45.toInt)) => ?_)
          · refine ex_al oq_X12_keepText_207 gL46_0 ?_
            refine ex_ic oq_X12_keepText_208 (m := 0) (by decide) (fun x49 hx49 => ?_)
            refine ex_pfi oq_X12_keepText_209 Th43 (k := 111) (d := 12) rfl rfl rfl (by omega) (by omega) (fun h50 Th50 wh50 => ?_)
            have Fh50 : cw_Fr cw_Ds cw_sh mk_k2 h h50 := cw_Fr_tr Fh43 (cw_Fr_wrf wh50 (k := 111) (d := 12) rfl rfl (by decide +kernel))
            have eh50_43 : ri_at h50 111 43 = x49.toInt := ri_self wh50
            have eh50_66 : ri_at h50 111 66 = ri_at h43 111 66 := ri_ne wh50 (by decide)
            have eh50_52 : ri_at h50 111 52 = ri_at h43 111 52 := ri_ne wh50 (by decide)
            have eh50_53 : ri_at h50 111 53 = ri_at h43 111 53 := ri_ne wh50 (by decide)
            have eh50_50 : ri_at h50 111 50 = ri_at h43 111 50 := ri_ne wh50 (by decide)
            refine ex_al oq_X12_keepText_212 gL46_0 ?_
            refine ex_ic oq_X12_keepText_213 (m := 0) (by decide) (fun x51 hx51 => ?_)
            refine ex_pfi oq_X12_keepText_214 Th50 (k := 111) (d := 12) rfl rfl rfl (by omega) (by omega) (fun h52 Th52 wh52 => ?_)
            have Fh52 : cw_Fr cw_Ds cw_sh mk_k2 h h52 := cw_Fr_tr Fh50 (cw_Fr_wrf wh52 (k := 111) (d := 12) rfl rfl (by decide +kernel))
            have eh52_43 : ri_at h52 111 43 = ri_at h50 111 43 := ri_ne wh52 (by decide)
            have eh52_66 : ri_at h52 111 66 = ri_at h50 111 66 := ri_ne wh52 (by decide)
            have eh52_52 : ri_at h52 111 52 = x51.toInt := ri_self wh52
            have eh52_53 : ri_at h52 111 53 = ri_at h50 111 53 := ri_ne wh52 (by decide)
            have eh52_50 : ri_at h52 111 50 = ri_at h50 111 50 := ri_ne wh52 (by decide)
            refine ex_al oq_X12_keepText_217 gL46_0 ?_
            refine ex_ic oq_X12_keepText_218 (m := (-1)) (by decide) (fun x53 hx53 => ?_)
            refine ex_pfi oq_X12_keepText_219 Th52 (k := 111) (d := 12) rfl rfl rfl (by omega) (by omega) (fun h54 Th54 wh54 => ?_)
            have Fh54 : cw_Fr cw_Ds cw_sh mk_k2 h h54 := cw_Fr_tr Fh52 (cw_Fr_wrf wh54 (k := 111) (d := 12) rfl rfl (by decide +kernel))
            have eh54_43 : ri_at h54 111 43 = ri_at h52 111 43 := ri_ne wh54 (by decide)
            have eh54_66 : ri_at h54 111 66 = ri_at h52 111 66 := ri_ne wh54 (by decide)
            have eh54_52 : ri_at h54 111 52 = ri_at h52 111 52 := ri_ne wh54 (by decide)
            have eh54_53 : ri_at h54 111 53 = x53.toInt := ri_self wh54
            have eh54_50 : ri_at h54 111 50 = ri_at h52 111 50 := ri_ne wh54 (by decide)
            refine ex_al oq_X12_keepText_222 gL46_0 ?_
            refine ex_ic oq_X12_keepText_223 (m := 0) (by decide) (fun x55 hx55 => ?_)
            refine ex_pfi oq_X12_keepText_224 Th54 (k := 111) (d := 12) rfl rfl rfl (by omega) (by omega) (fun h56 Th56 wh56 => ?_)
            have Fh56 : cw_Fr cw_Ds cw_sh mk_k2 h h56 := cw_Fr_tr Fh54 (cw_Fr_wrf wh56 (k := 111) (d := 12) rfl rfl (by decide +kernel))
            have eh56_43 : ri_at h56 111 43 = ri_at h54 111 43 := ri_ne wh56 (by decide)
            have eh56_66 : ri_at h56 111 66 = ri_at h54 111 66 := ri_ne wh56 (by decide)
            have eh56_52 : ri_at h56 111 52 = ri_at h54 111 52 := ri_ne wh56 (by decide)
            have eh56_53 : ri_at h56 111 53 = ri_at h54 111 53 := ri_ne wh56 (by decide)
            have eh56_50 : ri_at h56 111 50 = x55.toInt := ri_self wh56
            refine ex_al oq_X12_keepText_227 gL46_0 ?_
            refine ex_ic oq_X12_keepText_228 (m := 0) (by decide) (fun x57 hx57 => ?_)
            refine ex_pfb oq_X12_keepText_229 Th56 (k := 111) (d := 12) rfl rfl rfl (by omega) (by omega) (fun h58 Th58 wh58 => ?_)
            have Fh58 : cw_Fr cw_Ds cw_sh mk_k2 h h58 := cw_Fr_tr Fh56 (cw_Fr_wrf wh58 (k := 111) (d := 12) rfl rfl (by decide +kernel))
            have eh58_43 : ri_at h58 111 43 = ri_at h56 111 43 := ri_ne wh58 (by decide)
            have eh58_66 : ri_at h58 111 66 = x57.toInt := ri_self wh58
            have eh58_52 : ri_at h58 111 52 = ri_at h56 111 52 := ri_ne wh58 (by decide)
            have eh58_53 : ri_at h58 111 53 = ri_at h56 111 53 := ri_ne wh58 (by decide)
            have eh58_50 : ri_at h58 111 50 = ri_at h56 111 50 := ri_ne wh58 (by decide)
            exact ex_retv oq_X12_keepText_232 rfl (hQ h58 Th58 (pp_fr0 (by decide +kernel) hP Fh58) Fh58 ⟨by omega, by omega, by omega, by omega, by omega⟩)
          · exfalso; omega
set_option maxHeartbeats 8000000 in
theorem rt_keepText {h0 : cv_H} (hX : cw_Xok X) (hT : cw_T G h0) (hP : cw_PP G h0) (hI : rd_I h0) (hQ : ∀ G' h', cw_T G' h' → cw_PP G' h' → cw_Fr cw_Ds cw_sh mk_kt h0 h' → (ri_at h' 111 43 = 0 ∧ ri_at h' 111 66 = 0 ∧ ri_at h' 111 52 = 0 ∧ ri_at h' 111 53 = -1 ∧ ri_at h' 111 50 = 0) → zKq h0 h' → Q (none, h')) : cw_X X 173 Q 0 (cv_ent 0 [cv_r 111]) [] h0 := by
  have Fh0 : cw_Fr cw_Ds cw_sh mk_k1 h0 h0 := cw_Fr_refl
  have q125_h0 : ∀ i, ri_at h0 125 i = ri_at h0 125 i := fun _ => rfl
  have q126_h0 : ∀ i, ri_at h0 126 i = ri_at h0 126 i := fun _ => rfl
  have q127_h0 : ∀ i, ri_at h0 127 i = ri_at h0 127 i := fun _ => rfl
  have q116_h0 : ∀ i, ri_at h0 116 i = ri_at h0 116 i := fun _ => rfl
  have q119_h0 : ∀ i, ri_at h0 119 i = ri_at h0 119 i := fun _ => rfl
  have q124_h0 : ∀ i, ri_at h0 124 i = ri_at h0 124 i := fun _ => rfl
  have q118_h0 : ∀ i, ri_at h0 118 i = ri_at h0 118 i := fun _ => rfl
  have q121_h0 : ∀ i, ri_at h0 121 i = ri_at h0 121 i := fun _ => rfl
  have q123_h0 : ∀ i, ri_at h0 123 i = ri_at h0 123 i := fun _ => rfl
  refine ex_al oq_X12_keepText_0 rfl ?_
  refine ex_al oq_X12_keepText_1 rfl ?_
  obtain ⟨x501, ax501, rx501, lx501, ux501⟩ := fi_gatesRead hT
  refine ex_gf oq_X12_keepText_2 hT (k := 111) (d := 12) rfl rfl ax501 ?_
  refine ex_pfG oq_X12_keepText_5 hT (by omega) (by omega) (fun h502 Th502 wh502 => ?_)
  have Fh502 : cw_Fr cw_Ds cw_sh mk_k1 h0 h502 := cw_Fr_tr Fh0 (cw_Fr_wrf wh502 (k := 111) (d := 12) rfl rfl (by decide +kernel))
  have eh502_14 : ri_at h502 111 14 = ri_at h0 111 14 := ri_ne wh502 (by decide)
  have eh502_16 : ri_at h502 111 16 = ri_at h0 111 16 := ri_ne wh502 (by decide)
  have eh502_18 : ri_at h502 111 18 = ri_at h0 111 18 := ri_ne wh502 (by decide)
  have eh502_12 : ri_at h502 111 12 = x501.toInt := ri_self wh502
  have eh502_13 : ri_at h502 111 13 = ri_at h0 111 13 := ri_ne wh502 (by decide)
  have eh502_15 : ri_at h502 111 15 = ri_at h0 111 15 := ri_ne wh502 (by decide)
  have eh502_17 : ri_at h502 111 17 = ri_at h0 111 17 := ri_ne wh502 (by decide)
  have eh502_19 : ri_at h502 111 19 = ri_at h0 111 19 := ri_ne wh502 (by decide)
  have eh502_t0 : ri_at h502 117 0 = ri_at h0 117 0 := ri_ne wh502 (.inl (by decide))
  have eh502_t1 : ri_at h502 117 1 = ri_at h0 117 1 := ri_ne wh502 (.inl (by decide))
  have eh502_t2 : ri_at h502 117 2 = ri_at h0 117 2 := ri_ne wh502 (.inl (by decide))
  have eh502_t3 : ri_at h502 117 3 = ri_at h0 117 3 := ri_ne wh502 (.inl (by decide))
  have eh502_t4 : ri_at h502 117 4 = ri_at h0 117 4 := ri_ne wh502 (.inl (by decide))
  have eh502_t5 : ri_at h502 117 5 = ri_at h0 117 5 := ri_ne wh502 (.inl (by decide))
  have eh502_t6 : ri_at h502 117 6 = ri_at h0 117 6 := ri_ne wh502 (.inl (by decide))
  have eh502_t7 : ri_at h502 117 7 = ri_at h0 117 7 := ri_ne wh502 (.inl (by decide))
  have q125_h502 : ∀ i, ri_at h502 125 i = ri_at h0 125 i := fun i => (ri_ne wh502 (.inl (by decide))).trans (q125_h0 i)
  have q126_h502 : ∀ i, ri_at h502 126 i = ri_at h0 126 i := fun i => (ri_ne wh502 (.inl (by decide))).trans (q126_h0 i)
  have q127_h502 : ∀ i, ri_at h502 127 i = ri_at h0 127 i := fun i => (ri_ne wh502 (.inl (by decide))).trans (q127_h0 i)
  have q116_h502 : ∀ i, ri_at h502 116 i = ri_at h0 116 i := fun i => (ri_ne wh502 (.inl (by decide))).trans (q116_h0 i)
  have q119_h502 : ∀ i, ri_at h502 119 i = ri_at h0 119 i := fun i => (ri_ne wh502 (.inl (by decide))).trans (q119_h0 i)
  have q124_h502 : ∀ i, ri_at h502 124 i = ri_at h0 124 i := fun i => (ri_ne wh502 (.inl (by decide))).trans (q124_h0 i)
  have q118_h502 : ∀ i, ri_at h502 118 i = ri_at h0 118 i := fun i => (ri_ne wh502 (.inl (by decide))).trans (q118_h0 i)
  have q121_h502 : ∀ i, ri_at h502 121 i = ri_at h0 121 i := fun i => (ri_ne wh502 (.inl (by decide))).trans (q121_h0 i)
  have q123_h502 : ∀ i, ri_at h502 123 i = ri_at h0 123 i := fun i => (ri_ne wh502 (.inl (by decide))).trans (q123_h0 i)
  refine ex_al oq_X12_keepText_8 rfl ?_
  refine ex_al oq_X12_keepText_9 rfl ?_
  obtain ⟨x503, ax503, rx503, lx503, ux503⟩ := fi_worksRead Th502
  refine ex_gf oq_X12_keepText_10 Th502 (k := 111) (d := 12) rfl rfl ax503 ?_
  refine ex_pfi oq_X12_keepText_13 Th502 (k := 111) (d := 12) rfl rfl rfl (by omega) (by omega) (fun h504 Th504 wh504 => ?_)
  have Fh504 : cw_Fr cw_Ds cw_sh mk_k1 h0 h504 := cw_Fr_tr Fh502 (cw_Fr_wrf wh504 (k := 111) (d := 12) rfl rfl (by decide +kernel))
  have eh504_14 : ri_at h504 111 14 = ri_at h502 111 14 := ri_ne wh504 (by decide)
  have eh504_16 : ri_at h504 111 16 = ri_at h502 111 16 := ri_ne wh504 (by decide)
  have eh504_18 : ri_at h504 111 18 = ri_at h502 111 18 := ri_ne wh504 (by decide)
  have eh504_12 : ri_at h504 111 12 = ri_at h502 111 12 := ri_ne wh504 (by decide)
  have eh504_13 : ri_at h504 111 13 = x503.toInt := ri_self wh504
  have eh504_15 : ri_at h504 111 15 = ri_at h502 111 15 := ri_ne wh504 (by decide)
  have eh504_17 : ri_at h504 111 17 = ri_at h502 111 17 := ri_ne wh504 (by decide)
  have eh504_19 : ri_at h504 111 19 = ri_at h502 111 19 := ri_ne wh504 (by decide)
  have eh504_t0 : ri_at h504 117 0 = ri_at h502 117 0 := ri_ne wh504 (.inl (by decide))
  have eh504_t1 : ri_at h504 117 1 = ri_at h502 117 1 := ri_ne wh504 (.inl (by decide))
  have eh504_t2 : ri_at h504 117 2 = ri_at h502 117 2 := ri_ne wh504 (.inl (by decide))
  have eh504_t3 : ri_at h504 117 3 = ri_at h502 117 3 := ri_ne wh504 (.inl (by decide))
  have eh504_t4 : ri_at h504 117 4 = ri_at h502 117 4 := ri_ne wh504 (.inl (by decide))
  have eh504_t5 : ri_at h504 117 5 = ri_at h502 117 5 := ri_ne wh504 (.inl (by decide))
  have eh504_t6 : ri_at h504 117 6 = ri_at h502 117 6 := ri_ne wh504 (.inl (by decide))
  have eh504_t7 : ri_at h504 117 7 = ri_at h502 117 7 := ri_ne wh504 (.inl (by decide))
  have q125_h504 : ∀ i, ri_at h504 125 i = ri_at h0 125 i := fun i => (ri_ne wh504 (.inl (by decide))).trans (q125_h502 i)
  have q126_h504 : ∀ i, ri_at h504 126 i = ri_at h0 126 i := fun i => (ri_ne wh504 (.inl (by decide))).trans (q126_h502 i)
  have q127_h504 : ∀ i, ri_at h504 127 i = ri_at h0 127 i := fun i => (ri_ne wh504 (.inl (by decide))).trans (q127_h502 i)
  have q116_h504 : ∀ i, ri_at h504 116 i = ri_at h0 116 i := fun i => (ri_ne wh504 (.inl (by decide))).trans (q116_h502 i)
  have q119_h504 : ∀ i, ri_at h504 119 i = ri_at h0 119 i := fun i => (ri_ne wh504 (.inl (by decide))).trans (q119_h502 i)
  have q124_h504 : ∀ i, ri_at h504 124 i = ri_at h0 124 i := fun i => (ri_ne wh504 (.inl (by decide))).trans (q124_h502 i)
  have q118_h504 : ∀ i, ri_at h504 118 i = ri_at h0 118 i := fun i => (ri_ne wh504 (.inl (by decide))).trans (q118_h502 i)
  have q121_h504 : ∀ i, ri_at h504 121 i = ri_at h0 121 i := fun i => (ri_ne wh504 (.inl (by decide))).trans (q121_h502 i)
  have q123_h504 : ∀ i, ri_at h504 123 i = ri_at h0 123 i := fun i => (ri_ne wh504 (.inl (by decide))).trans (q123_h502 i)
  refine ex_al oq_X12_keepText_16 rfl ?_
  refine ex_al oq_X12_keepText_17 rfl ?_
  obtain ⟨x505, ax505, rx505, lx505, ux505⟩ := fi_causesRead Th504
  refine ex_gf oq_X12_keepText_18 Th504 (k := 111) (d := 12) rfl rfl ax505 ?_
  refine ex_pfi oq_X12_keepText_21 Th504 (k := 111) (d := 12) rfl rfl rfl (by omega) (by omega) (fun h506 Th506 wh506 => ?_)
  have Fh506 : cw_Fr cw_Ds cw_sh mk_k1 h0 h506 := cw_Fr_tr Fh504 (cw_Fr_wrf wh506 (k := 111) (d := 12) rfl rfl (by decide +kernel))
  have eh506_14 : ri_at h506 111 14 = x505.toInt := ri_self wh506
  have eh506_16 : ri_at h506 111 16 = ri_at h504 111 16 := ri_ne wh506 (by decide)
  have eh506_18 : ri_at h506 111 18 = ri_at h504 111 18 := ri_ne wh506 (by decide)
  have eh506_12 : ri_at h506 111 12 = ri_at h504 111 12 := ri_ne wh506 (by decide)
  have eh506_13 : ri_at h506 111 13 = ri_at h504 111 13 := ri_ne wh506 (by decide)
  have eh506_15 : ri_at h506 111 15 = ri_at h504 111 15 := ri_ne wh506 (by decide)
  have eh506_17 : ri_at h506 111 17 = ri_at h504 111 17 := ri_ne wh506 (by decide)
  have eh506_19 : ri_at h506 111 19 = ri_at h504 111 19 := ri_ne wh506 (by decide)
  have eh506_t0 : ri_at h506 117 0 = ri_at h504 117 0 := ri_ne wh506 (.inl (by decide))
  have eh506_t1 : ri_at h506 117 1 = ri_at h504 117 1 := ri_ne wh506 (.inl (by decide))
  have eh506_t2 : ri_at h506 117 2 = ri_at h504 117 2 := ri_ne wh506 (.inl (by decide))
  have eh506_t3 : ri_at h506 117 3 = ri_at h504 117 3 := ri_ne wh506 (.inl (by decide))
  have eh506_t4 : ri_at h506 117 4 = ri_at h504 117 4 := ri_ne wh506 (.inl (by decide))
  have eh506_t5 : ri_at h506 117 5 = ri_at h504 117 5 := ri_ne wh506 (.inl (by decide))
  have eh506_t6 : ri_at h506 117 6 = ri_at h504 117 6 := ri_ne wh506 (.inl (by decide))
  have eh506_t7 : ri_at h506 117 7 = ri_at h504 117 7 := ri_ne wh506 (.inl (by decide))
  have q125_h506 : ∀ i, ri_at h506 125 i = ri_at h0 125 i := fun i => (ri_ne wh506 (.inl (by decide))).trans (q125_h504 i)
  have q126_h506 : ∀ i, ri_at h506 126 i = ri_at h0 126 i := fun i => (ri_ne wh506 (.inl (by decide))).trans (q126_h504 i)
  have q127_h506 : ∀ i, ri_at h506 127 i = ri_at h0 127 i := fun i => (ri_ne wh506 (.inl (by decide))).trans (q127_h504 i)
  have q116_h506 : ∀ i, ri_at h506 116 i = ri_at h0 116 i := fun i => (ri_ne wh506 (.inl (by decide))).trans (q116_h504 i)
  have q119_h506 : ∀ i, ri_at h506 119 i = ri_at h0 119 i := fun i => (ri_ne wh506 (.inl (by decide))).trans (q119_h504 i)
  have q124_h506 : ∀ i, ri_at h506 124 i = ri_at h0 124 i := fun i => (ri_ne wh506 (.inl (by decide))).trans (q124_h504 i)
  have q118_h506 : ∀ i, ri_at h506 118 i = ri_at h0 118 i := fun i => (ri_ne wh506 (.inl (by decide))).trans (q118_h504 i)
  have q121_h506 : ∀ i, ri_at h506 121 i = ri_at h0 121 i := fun i => (ri_ne wh506 (.inl (by decide))).trans (q121_h504 i)
  have q123_h506 : ∀ i, ri_at h506 123 i = ri_at h0 123 i := fun i => (ri_ne wh506 (.inl (by decide))).trans (q123_h504 i)
  refine ex_al oq_X12_keepText_24 rfl ?_
  refine ex_al oq_X12_keepText_25 rfl ?_
  obtain ⟨x507, ax507, rx507, lx507, ux507⟩ := fi_knotsRead Th506
  refine ex_gf oq_X12_keepText_26 Th506 (k := 111) (d := 12) rfl rfl ax507 ?_
  refine ex_pfi oq_X12_keepText_29 Th506 (k := 111) (d := 12) rfl rfl rfl (by omega) (by omega) (fun h508 Th508 wh508 => ?_)
  have Fh508 : cw_Fr cw_Ds cw_sh mk_k1 h0 h508 := cw_Fr_tr Fh506 (cw_Fr_wrf wh508 (k := 111) (d := 12) rfl rfl (by decide +kernel))
  have eh508_14 : ri_at h508 111 14 = ri_at h506 111 14 := ri_ne wh508 (by decide)
  have eh508_16 : ri_at h508 111 16 = ri_at h506 111 16 := ri_ne wh508 (by decide)
  have eh508_18 : ri_at h508 111 18 = ri_at h506 111 18 := ri_ne wh508 (by decide)
  have eh508_12 : ri_at h508 111 12 = ri_at h506 111 12 := ri_ne wh508 (by decide)
  have eh508_13 : ri_at h508 111 13 = ri_at h506 111 13 := ri_ne wh508 (by decide)
  have eh508_15 : ri_at h508 111 15 = x507.toInt := ri_self wh508
  have eh508_17 : ri_at h508 111 17 = ri_at h506 111 17 := ri_ne wh508 (by decide)
  have eh508_19 : ri_at h508 111 19 = ri_at h506 111 19 := ri_ne wh508 (by decide)
  have eh508_t0 : ri_at h508 117 0 = ri_at h506 117 0 := ri_ne wh508 (.inl (by decide))
  have eh508_t1 : ri_at h508 117 1 = ri_at h506 117 1 := ri_ne wh508 (.inl (by decide))
  have eh508_t2 : ri_at h508 117 2 = ri_at h506 117 2 := ri_ne wh508 (.inl (by decide))
  have eh508_t3 : ri_at h508 117 3 = ri_at h506 117 3 := ri_ne wh508 (.inl (by decide))
  have eh508_t4 : ri_at h508 117 4 = ri_at h506 117 4 := ri_ne wh508 (.inl (by decide))
  have eh508_t5 : ri_at h508 117 5 = ri_at h506 117 5 := ri_ne wh508 (.inl (by decide))
  have eh508_t6 : ri_at h508 117 6 = ri_at h506 117 6 := ri_ne wh508 (.inl (by decide))
  have eh508_t7 : ri_at h508 117 7 = ri_at h506 117 7 := ri_ne wh508 (.inl (by decide))
  have q125_h508 : ∀ i, ri_at h508 125 i = ri_at h0 125 i := fun i => (ri_ne wh508 (.inl (by decide))).trans (q125_h506 i)
  have q126_h508 : ∀ i, ri_at h508 126 i = ri_at h0 126 i := fun i => (ri_ne wh508 (.inl (by decide))).trans (q126_h506 i)
  have q127_h508 : ∀ i, ri_at h508 127 i = ri_at h0 127 i := fun i => (ri_ne wh508 (.inl (by decide))).trans (q127_h506 i)
  have q116_h508 : ∀ i, ri_at h508 116 i = ri_at h0 116 i := fun i => (ri_ne wh508 (.inl (by decide))).trans (q116_h506 i)
  have q119_h508 : ∀ i, ri_at h508 119 i = ri_at h0 119 i := fun i => (ri_ne wh508 (.inl (by decide))).trans (q119_h506 i)
  have q124_h508 : ∀ i, ri_at h508 124 i = ri_at h0 124 i := fun i => (ri_ne wh508 (.inl (by decide))).trans (q124_h506 i)
  have q118_h508 : ∀ i, ri_at h508 118 i = ri_at h0 118 i := fun i => (ri_ne wh508 (.inl (by decide))).trans (q118_h506 i)
  have q121_h508 : ∀ i, ri_at h508 121 i = ri_at h0 121 i := fun i => (ri_ne wh508 (.inl (by decide))).trans (q121_h506 i)
  have q123_h508 : ∀ i, ri_at h508 123 i = ri_at h0 123 i := fun i => (ri_ne wh508 (.inl (by decide))).trans (q123_h506 i)
  refine ex_al oq_X12_keepText_32 rfl ?_
  refine ex_gf oq_X12_keepText_33 Th508 (k := 111) (d := 12) rfl rfl (fr_ground Th508) ?_
  refine ex_bi oq_X12_keepText_36 (m := 12) (by decide) (fun x509 hx509 => ?_)
  refine ex_cs oq_X12_keepText_38 (by decide) (as := [cv_r 114, cv_i x509]) (stk := []) rfl rfl rfl ⟨rfl, rfl⟩ (R := fun o => ∃ hb : cv_H, o = (none, hb) ∧ cw_T _ hb ∧ cp_F 114 h508 hb ∧ (∀ i, i < 12 → ri_at hb 114 i = ri_at h508 114 (12 + i)) ∧ (∀ i, 12 ≤ i → ri_at hb 114 i = ri_at h508 114 i)) (sp_copies Th508 (R := 114) (d := 53) rfl rfl x509 12 (by omega) (by decide) (by decide) (by decide) (fun hb a1 a2 a3 a4 => ⟨hb, rfl, a1, a2, a3, a4⟩)) (fun o ho => ?_)
  obtain ⟨h510, rfl, Th510, ch510, kah510, kbh510⟩ := ho
  show cw_X _ _ _ _ _ [] h510
  have Fh510 : cw_Fr cw_Ds cw_sh mk_k1 h0 h510 := cw_Fr_tr Fh508 (cp_Fr ch510 (d := 53) rfl rfl (by decide +kernel))
  have eh510_14 : ri_at h510 111 14 = ri_at h508 111 14 := cp_ri ch510 (by decide)
  have eh510_16 : ri_at h510 111 16 = ri_at h508 111 16 := cp_ri ch510 (by decide)
  have eh510_18 : ri_at h510 111 18 = ri_at h508 111 18 := cp_ri ch510 (by decide)
  have eh510_12 : ri_at h510 111 12 = ri_at h508 111 12 := cp_ri ch510 (by decide)
  have eh510_13 : ri_at h510 111 13 = ri_at h508 111 13 := cp_ri ch510 (by decide)
  have eh510_15 : ri_at h510 111 15 = ri_at h508 111 15 := cp_ri ch510 (by decide)
  have eh510_17 : ri_at h510 111 17 = ri_at h508 111 17 := cp_ri ch510 (by decide)
  have eh510_19 : ri_at h510 111 19 = ri_at h508 111 19 := cp_ri ch510 (by decide)
  have eh510_t0 : ri_at h510 117 0 = ri_at h508 117 0 := cp_ri ch510 (by decide)
  have eh510_t1 : ri_at h510 117 1 = ri_at h508 117 1 := cp_ri ch510 (by decide)
  have eh510_t2 : ri_at h510 117 2 = ri_at h508 117 2 := cp_ri ch510 (by decide)
  have eh510_t3 : ri_at h510 117 3 = ri_at h508 117 3 := cp_ri ch510 (by decide)
  have eh510_t4 : ri_at h510 117 4 = ri_at h508 117 4 := cp_ri ch510 (by decide)
  have eh510_t5 : ri_at h510 117 5 = ri_at h508 117 5 := cp_ri ch510 (by decide)
  have eh510_t6 : ri_at h510 117 6 = ri_at h508 117 6 := cp_ri ch510 (by decide)
  have eh510_t7 : ri_at h510 117 7 = ri_at h508 117 7 := cp_ri ch510 (by decide)
  have q125_h510 : ∀ i, ri_at h510 125 i = ri_at h0 125 i := fun i => (cp_ri ch510 (by decide)).trans (q125_h508 i)
  have q126_h510 : ∀ i, ri_at h510 126 i = ri_at h0 126 i := fun i => (cp_ri ch510 (by decide)).trans (q126_h508 i)
  have q127_h510 : ∀ i, ri_at h510 127 i = ri_at h0 127 i := fun i => (cp_ri ch510 (by decide)).trans (q127_h508 i)
  have q116_h510 : ∀ i, ri_at h510 116 i = ri_at h0 116 i := fun i => (cp_ri ch510 (by decide)).trans (q116_h508 i)
  have q119_h510 : ∀ i, ri_at h510 119 i = ri_at h0 119 i := fun i => (cp_ri ch510 (by decide)).trans (q119_h508 i)
  have q124_h510 : ∀ i, ri_at h510 124 i = ri_at h0 124 i := fun i => (cp_ri ch510 (by decide)).trans (q124_h508 i)
  have q118_h510 : ∀ i, ri_at h510 118 i = ri_at h0 118 i := fun i => (cp_ri ch510 (by decide)).trans (q118_h508 i)
  have q121_h510 : ∀ i, ri_at h510 121 i = ri_at h0 121 i := fun i => (cp_ri ch510 (by decide)).trans (q121_h508 i)
  have q123_h510 : ∀ i, ri_at h510 123 i = ri_at h0 123 i := fun i => (cp_ri ch510 (by decide)).trans (q123_h508 i)
  refine ex_al oq_X12_keepText_41 rfl ?_
  refine ex_gf oq_X12_keepText_42 Th510 (k := 111) (d := 12) rfl rfl (fr_lawFirst Th510) ?_
  refine ex_ic oq_X12_keepText_45 (m := 4) (by decide) (fun x511 hx511 => ?_)
  refine ex_cs oq_X12_keepText_46 (by decide) (as := [cv_r 115, cv_i x511]) (stk := []) rfl rfl rfl ⟨rfl, rfl⟩ (R := fun o => ∃ hb : cv_H, o = (none, hb) ∧ cw_T _ hb ∧ cp_F 115 h510 hb ∧ (∀ i, i < 4 → ri_at hb 115 i = ri_at h510 115 (4 + i)) ∧ (∀ i, 4 ≤ i → ri_at hb 115 i = ri_at h510 115 i)) (sp_copies Th510 (R := 115) (d := 54) rfl rfl x511 4 (by omega) (by decide) (by decide) (by decide) (fun hb a1 a2 a3 a4 => ⟨hb, rfl, a1, a2, a3, a4⟩)) (fun o ho => ?_)
  obtain ⟨h512, rfl, Th512, ch512, kah512, kbh512⟩ := ho
  show cw_X _ _ _ _ _ [] h512
  have Fh512 : cw_Fr cw_Ds cw_sh mk_k1 h0 h512 := cw_Fr_tr Fh510 (cp_Fr ch512 (d := 54) rfl rfl (by decide +kernel))
  have eh512_14 : ri_at h512 111 14 = ri_at h510 111 14 := cp_ri ch512 (by decide)
  have eh512_16 : ri_at h512 111 16 = ri_at h510 111 16 := cp_ri ch512 (by decide)
  have eh512_18 : ri_at h512 111 18 = ri_at h510 111 18 := cp_ri ch512 (by decide)
  have eh512_12 : ri_at h512 111 12 = ri_at h510 111 12 := cp_ri ch512 (by decide)
  have eh512_13 : ri_at h512 111 13 = ri_at h510 111 13 := cp_ri ch512 (by decide)
  have eh512_15 : ri_at h512 111 15 = ri_at h510 111 15 := cp_ri ch512 (by decide)
  have eh512_17 : ri_at h512 111 17 = ri_at h510 111 17 := cp_ri ch512 (by decide)
  have eh512_19 : ri_at h512 111 19 = ri_at h510 111 19 := cp_ri ch512 (by decide)
  have eh512_t0 : ri_at h512 117 0 = ri_at h510 117 0 := cp_ri ch512 (by decide)
  have eh512_t1 : ri_at h512 117 1 = ri_at h510 117 1 := cp_ri ch512 (by decide)
  have eh512_t2 : ri_at h512 117 2 = ri_at h510 117 2 := cp_ri ch512 (by decide)
  have eh512_t3 : ri_at h512 117 3 = ri_at h510 117 3 := cp_ri ch512 (by decide)
  have eh512_t4 : ri_at h512 117 4 = ri_at h510 117 4 := cp_ri ch512 (by decide)
  have eh512_t5 : ri_at h512 117 5 = ri_at h510 117 5 := cp_ri ch512 (by decide)
  have eh512_t6 : ri_at h512 117 6 = ri_at h510 117 6 := cp_ri ch512 (by decide)
  have eh512_t7 : ri_at h512 117 7 = ri_at h510 117 7 := cp_ri ch512 (by decide)
  have q125_h512 : ∀ i, ri_at h512 125 i = ri_at h0 125 i := fun i => (cp_ri ch512 (by decide)).trans (q125_h510 i)
  have q126_h512 : ∀ i, ri_at h512 126 i = ri_at h0 126 i := fun i => (cp_ri ch512 (by decide)).trans (q126_h510 i)
  have q127_h512 : ∀ i, ri_at h512 127 i = ri_at h0 127 i := fun i => (cp_ri ch512 (by decide)).trans (q127_h510 i)
  have q116_h512 : ∀ i, ri_at h512 116 i = ri_at h0 116 i := fun i => (cp_ri ch512 (by decide)).trans (q116_h510 i)
  have q119_h512 : ∀ i, ri_at h512 119 i = ri_at h0 119 i := fun i => (cp_ri ch512 (by decide)).trans (q119_h510 i)
  have q124_h512 : ∀ i, ri_at h512 124 i = ri_at h0 124 i := fun i => (cp_ri ch512 (by decide)).trans (q124_h510 i)
  have q118_h512 : ∀ i, ri_at h512 118 i = ri_at h0 118 i := fun i => (cp_ri ch512 (by decide)).trans (q118_h510 i)
  have q121_h512 : ∀ i, ri_at h512 121 i = ri_at h0 121 i := fun i => (cp_ri ch512 (by decide)).trans (q121_h510 i)
  have q123_h512 : ∀ i, ri_at h512 123 i = ri_at h0 123 i := fun i => (cp_ri ch512 (by decide)).trans (q123_h510 i)
  refine ex_al oq_X12_keepText_49 rfl ?_
  refine ex_gf oq_X12_keepText_50 Th512 (k := 111) (d := 12) rfl rfl (fr_lawLast Th512) ?_
  refine ex_ic oq_X12_keepText_53 (m := 4) (by decide) (fun x513 hx513 => ?_)
  refine ex_cs oq_X12_keepText_54 (by decide) (as := [cv_r 116, cv_i x513]) (stk := []) rfl rfl rfl ⟨rfl, rfl⟩ (R := fun o => ∃ hb : cv_H, o = (none, hb) ∧ cw_T _ hb ∧ cp_F 116 h512 hb ∧ (∀ i, i < 4 → ri_at hb 116 i = ri_at h512 116 (4 + i)) ∧ (∀ i, 4 ≤ i → ri_at hb 116 i = ri_at h512 116 i)) (sp_copies Th512 (R := 116) (d := 55) rfl rfl x513 4 (by omega) (by decide) (by decide) (by decide) (fun hb a1 a2 a3 a4 => ⟨hb, rfl, a1, a2, a3, a4⟩)) (fun o ho => ?_)
  obtain ⟨h514, rfl, Th514, ch514, kah514, kbh514⟩ := ho
  show cw_X _ _ _ _ _ [] h514
  have Fh514 : cw_Fr cw_Ds cw_sh mk_k1 h0 h514 := cw_Fr_tr Fh512 (cp_Fr ch514 (d := 55) rfl rfl (by decide +kernel))
  have eh514_14 : ri_at h514 111 14 = ri_at h512 111 14 := cp_ri ch514 (by decide)
  have eh514_16 : ri_at h514 111 16 = ri_at h512 111 16 := cp_ri ch514 (by decide)
  have eh514_18 : ri_at h514 111 18 = ri_at h512 111 18 := cp_ri ch514 (by decide)
  have eh514_12 : ri_at h514 111 12 = ri_at h512 111 12 := cp_ri ch514 (by decide)
  have eh514_13 : ri_at h514 111 13 = ri_at h512 111 13 := cp_ri ch514 (by decide)
  have eh514_15 : ri_at h514 111 15 = ri_at h512 111 15 := cp_ri ch514 (by decide)
  have eh514_17 : ri_at h514 111 17 = ri_at h512 111 17 := cp_ri ch514 (by decide)
  have eh514_19 : ri_at h514 111 19 = ri_at h512 111 19 := cp_ri ch514 (by decide)
  have eh514_t0 : ri_at h514 117 0 = ri_at h512 117 0 := cp_ri ch514 (by decide)
  have eh514_t1 : ri_at h514 117 1 = ri_at h512 117 1 := cp_ri ch514 (by decide)
  have eh514_t2 : ri_at h514 117 2 = ri_at h512 117 2 := cp_ri ch514 (by decide)
  have eh514_t3 : ri_at h514 117 3 = ri_at h512 117 3 := cp_ri ch514 (by decide)
  have eh514_t4 : ri_at h514 117 4 = ri_at h512 117 4 := cp_ri ch514 (by decide)
  have eh514_t5 : ri_at h514 117 5 = ri_at h512 117 5 := cp_ri ch514 (by decide)
  have eh514_t6 : ri_at h514 117 6 = ri_at h512 117 6 := cp_ri ch514 (by decide)
  have eh514_t7 : ri_at h514 117 7 = ri_at h512 117 7 := cp_ri ch514 (by decide)
  have q125_h514 : ∀ i, ri_at h514 125 i = ri_at h0 125 i := fun i => (cp_ri ch514 (by decide)).trans (q125_h512 i)
  have q126_h514 : ∀ i, ri_at h514 126 i = ri_at h0 126 i := fun i => (cp_ri ch514 (by decide)).trans (q126_h512 i)
  have q127_h514 : ∀ i, ri_at h514 127 i = ri_at h0 127 i := fun i => (cp_ri ch514 (by decide)).trans (q127_h512 i)
  have qa116_h514 : ∀ i, i < 4 → ri_at h514 116 i = ri_at h0 116 (4 + i) := fun i hi => (kah514 i hi).trans (q116_h512 _)
  have qb116_h514 : ∀ i, 4 ≤ i → ri_at h514 116 i = ri_at h0 116 i := fun i hi => (kbh514 i hi).trans (q116_h512 _)
  have q119_h514 : ∀ i, ri_at h514 119 i = ri_at h0 119 i := fun i => (cp_ri ch514 (by decide)).trans (q119_h512 i)
  have q124_h514 : ∀ i, ri_at h514 124 i = ri_at h0 124 i := fun i => (cp_ri ch514 (by decide)).trans (q124_h512 i)
  have q118_h514 : ∀ i, ri_at h514 118 i = ri_at h0 118 i := fun i => (cp_ri ch514 (by decide)).trans (q118_h512 i)
  have q121_h514 : ∀ i, ri_at h514 121 i = ri_at h0 121 i := fun i => (cp_ri ch514 (by decide)).trans (q121_h512 i)
  have q123_h514 : ∀ i, ri_at h514 123 i = ri_at h0 123 i := fun i => (cp_ri ch514 (by decide)).trans (q123_h512 i)
  refine ex_ic oq_X12_keepText_57 (m := 0) (by decide) (fun x515 hx515 => ?_)
  refine ex_isA oq_X12_keepText_58 (fun L516 gL516_1 kL516 => ?_)
  have gL516_0 : cv_get L516 0 = some (cv_r 111) := kL516 0 _ (by decide) (fun _ => rfl) rfl
  refine ex_il oq_X12_keepText_59 gL516_1 ?_
  refine ex_ic oq_X12_keepText_60 (m := 4) (by decide) (fun x517 hx517 => ?_)
  refine ex_if oq_X12_keepText_61 (t := 84) rfl rfl (fun (c518 : x517.toInt ≤ x515.toInt) => ?_) (fun (c518 : ¬ (x517.toInt ≤ x515.toInt)) => ?_)
  · exfalso; omega
  · refine ex_al oq_X12_keepText_64 gL516_0 ?_
    refine ex_gf oq_X12_keepText_65 Th514 (k := 111) (d := 12) rfl rfl (fr_lawTold Th514) ?_
    refine ex_il oq_X12_keepText_68 gL516_1 ?_
    refine ex_al oq_X12_keepText_69 gL516_0 ?_
    refine ex_gf oq_X12_keepText_70 Th514 (k := 111) (d := 12) rfl rfl (fr_lawTold Th514) ?_
    refine ex_ic oq_X12_keepText_73 (m := 4) (by decide) (fun x519 hx519 => ?_)
    refine ex_il oq_X12_keepText_74 gL516_1 ?_
    refine ex_add oq_X12_keepText_75 (by omega) (fun x520 hx520 => ?_)
    refine ex_ba1 oq_X12_keepText_76 Th514 (k := 117) (d := 56) (j := 4) rfl rfl rfl (by omega) (by omega) (fun x521 hx521 lx521 ux521 => ?_)
    refine ex_bw2 oq_X12_keepText_77 Th514 (k := 117) (d := 56) (j := 0) rfl rfl (by omega) (by omega) ⟨by omega, by omega⟩ (fun h522 Th522 wh522 => ?_)
    have Fh522 : cw_Fr cw_Ds cw_sh mk_k1 h0 h522 := cw_Fr_tr Fh514 (cw_Fr_wrr wh522 (k := 117) (d := 56) rfl rfl (by decide +kernel))
    have eh522_14 : ri_at h522 111 14 = ri_at h514 111 14 := ri_ne wh522 (.inl (by decide))
    have eh522_16 : ri_at h522 111 16 = ri_at h514 111 16 := ri_ne wh522 (.inl (by decide))
    have eh522_18 : ri_at h522 111 18 = ri_at h514 111 18 := ri_ne wh522 (.inl (by decide))
    have eh522_12 : ri_at h522 111 12 = ri_at h514 111 12 := ri_ne wh522 (.inl (by decide))
    have eh522_13 : ri_at h522 111 13 = ri_at h514 111 13 := ri_ne wh522 (.inl (by decide))
    have eh522_15 : ri_at h522 111 15 = ri_at h514 111 15 := ri_ne wh522 (.inl (by decide))
    have eh522_17 : ri_at h522 111 17 = ri_at h514 111 17 := ri_ne wh522 (.inl (by decide))
    have eh522_19 : ri_at h522 111 19 = ri_at h514 111 19 := ri_ne wh522 (.inl (by decide))
    have eh522_t0 : ri_at h522 117 0 = x521.toInt := ri_self wh522
    have eh522_t1 : ri_at h522 117 1 = ri_at h514 117 1 := ri_ne wh522 (.inr (by decide))
    have eh522_t2 : ri_at h522 117 2 = ri_at h514 117 2 := ri_ne wh522 (.inr (by decide))
    have eh522_t3 : ri_at h522 117 3 = ri_at h514 117 3 := ri_ne wh522 (.inr (by decide))
    have eh522_t4 : ri_at h522 117 4 = ri_at h514 117 4 := ri_ne wh522 (.inr (by decide))
    have eh522_t5 : ri_at h522 117 5 = ri_at h514 117 5 := ri_ne wh522 (.inr (by decide))
    have eh522_t6 : ri_at h522 117 6 = ri_at h514 117 6 := ri_ne wh522 (.inr (by decide))
    have eh522_t7 : ri_at h522 117 7 = ri_at h514 117 7 := ri_ne wh522 (.inr (by decide))
    have q125_h522 : ∀ i, ri_at h522 125 i = ri_at h0 125 i := fun i => (ri_ne wh522 (.inl (by decide))).trans (q125_h514 i)
    have q126_h522 : ∀ i, ri_at h522 126 i = ri_at h0 126 i := fun i => (ri_ne wh522 (.inl (by decide))).trans (q126_h514 i)
    have q127_h522 : ∀ i, ri_at h522 127 i = ri_at h0 127 i := fun i => (ri_ne wh522 (.inl (by decide))).trans (q127_h514 i)
    have qa116_h522 : ∀ i, i < 4 → ri_at h522 116 i = ri_at h0 116 (4 + i) := fun i hi => (ri_ne wh522 (.inl (by decide))).trans (qa116_h514 i hi)
    have qb116_h522 : ∀ i, 4 ≤ i → ri_at h522 116 i = ri_at h0 116 i := fun i hi => (ri_ne wh522 (.inl (by decide))).trans (qb116_h514 i hi)
    have q119_h522 : ∀ i, ri_at h522 119 i = ri_at h0 119 i := fun i => (ri_ne wh522 (.inl (by decide))).trans (q119_h514 i)
    have q124_h522 : ∀ i, ri_at h522 124 i = ri_at h0 124 i := fun i => (ri_ne wh522 (.inl (by decide))).trans (q124_h514 i)
    have q118_h522 : ∀ i, ri_at h522 118 i = ri_at h0 118 i := fun i => (ri_ne wh522 (.inl (by decide))).trans (q118_h514 i)
    have q121_h522 : ∀ i, ri_at h522 121 i = ri_at h0 121 i := fun i => (ri_ne wh522 (.inl (by decide))).trans (q121_h514 i)
    have q123_h522 : ∀ i, ri_at h522 123 i = ri_at h0 123 i := fun i => (ri_ne wh522 (.inl (by decide))).trans (q123_h514 i)
    refine ex_incA oq_X12_keepText_78 (v := x515) (m := 1) gL516_1 (by decide) (by omega) (fun L524 x523 hx523 gL524_1 kL524 => ?_)
    have gL524_0 : cv_get L524 0 = some (cv_r 111) := kL524 0 _ (by decide) (fun _ => rfl) gL516_0
    refine ex_go oq_X12_keepText_81 (t := 59) rfl rfl ?_
    refine ex_il oq_X12_keepText_59 gL524_1 ?_
    refine ex_ic oq_X12_keepText_60 (m := 4) (by decide) (fun x525 hx525 => ?_)
    refine ex_if oq_X12_keepText_61 (t := 84) rfl rfl (fun (c526 : x525.toInt ≤ x523.toInt) => ?_) (fun (c526 : ¬ (x525.toInt ≤ x523.toInt)) => ?_)
    · exfalso; omega
    · refine ex_al oq_X12_keepText_64 gL524_0 ?_
      refine ex_gf oq_X12_keepText_65 Th522 (k := 111) (d := 12) rfl rfl (fr_lawTold Th522) ?_
      refine ex_il oq_X12_keepText_68 gL524_1 ?_
      refine ex_al oq_X12_keepText_69 gL524_0 ?_
      refine ex_gf oq_X12_keepText_70 Th522 (k := 111) (d := 12) rfl rfl (fr_lawTold Th522) ?_
      refine ex_ic oq_X12_keepText_73 (m := 4) (by decide) (fun x527 hx527 => ?_)
      refine ex_il oq_X12_keepText_74 gL524_1 ?_
      refine ex_add oq_X12_keepText_75 (by omega) (fun x528 hx528 => ?_)
      refine ex_ba1 oq_X12_keepText_76 Th522 (k := 117) (d := 56) (j := 5) rfl rfl rfl (by omega) (by omega) (fun x529 hx529 lx529 ux529 => ?_)
      refine ex_bw2 oq_X12_keepText_77 Th522 (k := 117) (d := 56) (j := 1) rfl rfl (by omega) (by omega) ⟨by omega, by omega⟩ (fun h530 Th530 wh530 => ?_)
      have Fh530 : cw_Fr cw_Ds cw_sh mk_k1 h0 h530 := cw_Fr_tr Fh522 (cw_Fr_wrr wh530 (k := 117) (d := 56) rfl rfl (by decide +kernel))
      have eh530_14 : ri_at h530 111 14 = ri_at h522 111 14 := ri_ne wh530 (.inl (by decide))
      have eh530_16 : ri_at h530 111 16 = ri_at h522 111 16 := ri_ne wh530 (.inl (by decide))
      have eh530_18 : ri_at h530 111 18 = ri_at h522 111 18 := ri_ne wh530 (.inl (by decide))
      have eh530_12 : ri_at h530 111 12 = ri_at h522 111 12 := ri_ne wh530 (.inl (by decide))
      have eh530_13 : ri_at h530 111 13 = ri_at h522 111 13 := ri_ne wh530 (.inl (by decide))
      have eh530_15 : ri_at h530 111 15 = ri_at h522 111 15 := ri_ne wh530 (.inl (by decide))
      have eh530_17 : ri_at h530 111 17 = ri_at h522 111 17 := ri_ne wh530 (.inl (by decide))
      have eh530_19 : ri_at h530 111 19 = ri_at h522 111 19 := ri_ne wh530 (.inl (by decide))
      have eh530_t0 : ri_at h530 117 0 = ri_at h522 117 0 := ri_ne wh530 (.inr (by decide))
      have eh530_t1 : ri_at h530 117 1 = x529.toInt := ri_self wh530
      have eh530_t2 : ri_at h530 117 2 = ri_at h522 117 2 := ri_ne wh530 (.inr (by decide))
      have eh530_t3 : ri_at h530 117 3 = ri_at h522 117 3 := ri_ne wh530 (.inr (by decide))
      have eh530_t4 : ri_at h530 117 4 = ri_at h522 117 4 := ri_ne wh530 (.inr (by decide))
      have eh530_t5 : ri_at h530 117 5 = ri_at h522 117 5 := ri_ne wh530 (.inr (by decide))
      have eh530_t6 : ri_at h530 117 6 = ri_at h522 117 6 := ri_ne wh530 (.inr (by decide))
      have eh530_t7 : ri_at h530 117 7 = ri_at h522 117 7 := ri_ne wh530 (.inr (by decide))
      have q125_h530 : ∀ i, ri_at h530 125 i = ri_at h0 125 i := fun i => (ri_ne wh530 (.inl (by decide))).trans (q125_h522 i)
      have q126_h530 : ∀ i, ri_at h530 126 i = ri_at h0 126 i := fun i => (ri_ne wh530 (.inl (by decide))).trans (q126_h522 i)
      have q127_h530 : ∀ i, ri_at h530 127 i = ri_at h0 127 i := fun i => (ri_ne wh530 (.inl (by decide))).trans (q127_h522 i)
      have qa116_h530 : ∀ i, i < 4 → ri_at h530 116 i = ri_at h0 116 (4 + i) := fun i hi => (ri_ne wh530 (.inl (by decide))).trans (qa116_h522 i hi)
      have qb116_h530 : ∀ i, 4 ≤ i → ri_at h530 116 i = ri_at h0 116 i := fun i hi => (ri_ne wh530 (.inl (by decide))).trans (qb116_h522 i hi)
      have q119_h530 : ∀ i, ri_at h530 119 i = ri_at h0 119 i := fun i => (ri_ne wh530 (.inl (by decide))).trans (q119_h522 i)
      have q124_h530 : ∀ i, ri_at h530 124 i = ri_at h0 124 i := fun i => (ri_ne wh530 (.inl (by decide))).trans (q124_h522 i)
      have q118_h530 : ∀ i, ri_at h530 118 i = ri_at h0 118 i := fun i => (ri_ne wh530 (.inl (by decide))).trans (q118_h522 i)
      have q121_h530 : ∀ i, ri_at h530 121 i = ri_at h0 121 i := fun i => (ri_ne wh530 (.inl (by decide))).trans (q121_h522 i)
      have q123_h530 : ∀ i, ri_at h530 123 i = ri_at h0 123 i := fun i => (ri_ne wh530 (.inl (by decide))).trans (q123_h522 i)
      refine ex_incA oq_X12_keepText_78 (v := x523) (m := 1) gL524_1 (by decide) (by omega) (fun L532 x531 hx531 gL532_1 kL532 => ?_)
      have gL532_0 : cv_get L532 0 = some (cv_r 111) := kL532 0 _ (by decide) (fun _ => rfl) gL524_0
      refine ex_go oq_X12_keepText_81 (t := 59) rfl rfl ?_
      refine ex_il oq_X12_keepText_59 gL532_1 ?_
      refine ex_ic oq_X12_keepText_60 (m := 4) (by decide) (fun x533 hx533 => ?_)
      refine ex_if oq_X12_keepText_61 (t := 84) rfl rfl (fun (c534 : x533.toInt ≤ x531.toInt) => ?_) (fun (c534 : ¬ (x533.toInt ≤ x531.toInt)) => ?_)
      · exfalso; omega
      · refine ex_al oq_X12_keepText_64 gL532_0 ?_
        refine ex_gf oq_X12_keepText_65 Th530 (k := 111) (d := 12) rfl rfl (fr_lawTold Th530) ?_
        refine ex_il oq_X12_keepText_68 gL532_1 ?_
        refine ex_al oq_X12_keepText_69 gL532_0 ?_
        refine ex_gf oq_X12_keepText_70 Th530 (k := 111) (d := 12) rfl rfl (fr_lawTold Th530) ?_
        refine ex_ic oq_X12_keepText_73 (m := 4) (by decide) (fun x535 hx535 => ?_)
        refine ex_il oq_X12_keepText_74 gL532_1 ?_
        refine ex_add oq_X12_keepText_75 (by omega) (fun x536 hx536 => ?_)
        refine ex_ba1 oq_X12_keepText_76 Th530 (k := 117) (d := 56) (j := 6) rfl rfl rfl (by omega) (by omega) (fun x537 hx537 lx537 ux537 => ?_)
        refine ex_bw2 oq_X12_keepText_77 Th530 (k := 117) (d := 56) (j := 2) rfl rfl (by omega) (by omega) ⟨by omega, by omega⟩ (fun h538 Th538 wh538 => ?_)
        have Fh538 : cw_Fr cw_Ds cw_sh mk_k1 h0 h538 := cw_Fr_tr Fh530 (cw_Fr_wrr wh538 (k := 117) (d := 56) rfl rfl (by decide +kernel))
        have eh538_14 : ri_at h538 111 14 = ri_at h530 111 14 := ri_ne wh538 (.inl (by decide))
        have eh538_16 : ri_at h538 111 16 = ri_at h530 111 16 := ri_ne wh538 (.inl (by decide))
        have eh538_18 : ri_at h538 111 18 = ri_at h530 111 18 := ri_ne wh538 (.inl (by decide))
        have eh538_12 : ri_at h538 111 12 = ri_at h530 111 12 := ri_ne wh538 (.inl (by decide))
        have eh538_13 : ri_at h538 111 13 = ri_at h530 111 13 := ri_ne wh538 (.inl (by decide))
        have eh538_15 : ri_at h538 111 15 = ri_at h530 111 15 := ri_ne wh538 (.inl (by decide))
        have eh538_17 : ri_at h538 111 17 = ri_at h530 111 17 := ri_ne wh538 (.inl (by decide))
        have eh538_19 : ri_at h538 111 19 = ri_at h530 111 19 := ri_ne wh538 (.inl (by decide))
        have eh538_t0 : ri_at h538 117 0 = ri_at h530 117 0 := ri_ne wh538 (.inr (by decide))
        have eh538_t1 : ri_at h538 117 1 = ri_at h530 117 1 := ri_ne wh538 (.inr (by decide))
        have eh538_t2 : ri_at h538 117 2 = x537.toInt := ri_self wh538
        have eh538_t3 : ri_at h538 117 3 = ri_at h530 117 3 := ri_ne wh538 (.inr (by decide))
        have eh538_t4 : ri_at h538 117 4 = ri_at h530 117 4 := ri_ne wh538 (.inr (by decide))
        have eh538_t5 : ri_at h538 117 5 = ri_at h530 117 5 := ri_ne wh538 (.inr (by decide))
        have eh538_t6 : ri_at h538 117 6 = ri_at h530 117 6 := ri_ne wh538 (.inr (by decide))
        have eh538_t7 : ri_at h538 117 7 = ri_at h530 117 7 := ri_ne wh538 (.inr (by decide))
        have q125_h538 : ∀ i, ri_at h538 125 i = ri_at h0 125 i := fun i => (ri_ne wh538 (.inl (by decide))).trans (q125_h530 i)
        have q126_h538 : ∀ i, ri_at h538 126 i = ri_at h0 126 i := fun i => (ri_ne wh538 (.inl (by decide))).trans (q126_h530 i)
        have q127_h538 : ∀ i, ri_at h538 127 i = ri_at h0 127 i := fun i => (ri_ne wh538 (.inl (by decide))).trans (q127_h530 i)
        have qa116_h538 : ∀ i, i < 4 → ri_at h538 116 i = ri_at h0 116 (4 + i) := fun i hi => (ri_ne wh538 (.inl (by decide))).trans (qa116_h530 i hi)
        have qb116_h538 : ∀ i, 4 ≤ i → ri_at h538 116 i = ri_at h0 116 i := fun i hi => (ri_ne wh538 (.inl (by decide))).trans (qb116_h530 i hi)
        have q119_h538 : ∀ i, ri_at h538 119 i = ri_at h0 119 i := fun i => (ri_ne wh538 (.inl (by decide))).trans (q119_h530 i)
        have q124_h538 : ∀ i, ri_at h538 124 i = ri_at h0 124 i := fun i => (ri_ne wh538 (.inl (by decide))).trans (q124_h530 i)
        have q118_h538 : ∀ i, ri_at h538 118 i = ri_at h0 118 i := fun i => (ri_ne wh538 (.inl (by decide))).trans (q118_h530 i)
        have q121_h538 : ∀ i, ri_at h538 121 i = ri_at h0 121 i := fun i => (ri_ne wh538 (.inl (by decide))).trans (q121_h530 i)
        have q123_h538 : ∀ i, ri_at h538 123 i = ri_at h0 123 i := fun i => (ri_ne wh538 (.inl (by decide))).trans (q123_h530 i)
        refine ex_incA oq_X12_keepText_78 (v := x531) (m := 1) gL532_1 (by decide) (by omega) (fun L540 x539 hx539 gL540_1 kL540 => ?_)
        have gL540_0 : cv_get L540 0 = some (cv_r 111) := kL540 0 _ (by decide) (fun _ => rfl) gL532_0
        refine ex_go oq_X12_keepText_81 (t := 59) rfl rfl ?_
        refine ex_il oq_X12_keepText_59 gL540_1 ?_
        refine ex_ic oq_X12_keepText_60 (m := 4) (by decide) (fun x541 hx541 => ?_)
        refine ex_if oq_X12_keepText_61 (t := 84) rfl rfl (fun (c542 : x541.toInt ≤ x539.toInt) => ?_) (fun (c542 : ¬ (x541.toInt ≤ x539.toInt)) => ?_)
        · exfalso; omega
        · refine ex_al oq_X12_keepText_64 gL540_0 ?_
          refine ex_gf oq_X12_keepText_65 Th538 (k := 111) (d := 12) rfl rfl (fr_lawTold Th538) ?_
          refine ex_il oq_X12_keepText_68 gL540_1 ?_
          refine ex_al oq_X12_keepText_69 gL540_0 ?_
          refine ex_gf oq_X12_keepText_70 Th538 (k := 111) (d := 12) rfl rfl (fr_lawTold Th538) ?_
          refine ex_ic oq_X12_keepText_73 (m := 4) (by decide) (fun x543 hx543 => ?_)
          refine ex_il oq_X12_keepText_74 gL540_1 ?_
          refine ex_add oq_X12_keepText_75 (by omega) (fun x544 hx544 => ?_)
          refine ex_ba1 oq_X12_keepText_76 Th538 (k := 117) (d := 56) (j := 7) rfl rfl rfl (by omega) (by omega) (fun x545 hx545 lx545 ux545 => ?_)
          refine ex_bw2 oq_X12_keepText_77 Th538 (k := 117) (d := 56) (j := 3) rfl rfl (by omega) (by omega) ⟨by omega, by omega⟩ (fun h546 Th546 wh546 => ?_)
          have Fh546 : cw_Fr cw_Ds cw_sh mk_k1 h0 h546 := cw_Fr_tr Fh538 (cw_Fr_wrr wh546 (k := 117) (d := 56) rfl rfl (by decide +kernel))
          have eh546_14 : ri_at h546 111 14 = ri_at h538 111 14 := ri_ne wh546 (.inl (by decide))
          have eh546_16 : ri_at h546 111 16 = ri_at h538 111 16 := ri_ne wh546 (.inl (by decide))
          have eh546_18 : ri_at h546 111 18 = ri_at h538 111 18 := ri_ne wh546 (.inl (by decide))
          have eh546_12 : ri_at h546 111 12 = ri_at h538 111 12 := ri_ne wh546 (.inl (by decide))
          have eh546_13 : ri_at h546 111 13 = ri_at h538 111 13 := ri_ne wh546 (.inl (by decide))
          have eh546_15 : ri_at h546 111 15 = ri_at h538 111 15 := ri_ne wh546 (.inl (by decide))
          have eh546_17 : ri_at h546 111 17 = ri_at h538 111 17 := ri_ne wh546 (.inl (by decide))
          have eh546_19 : ri_at h546 111 19 = ri_at h538 111 19 := ri_ne wh546 (.inl (by decide))
          have eh546_t0 : ri_at h546 117 0 = ri_at h538 117 0 := ri_ne wh546 (.inr (by decide))
          have eh546_t1 : ri_at h546 117 1 = ri_at h538 117 1 := ri_ne wh546 (.inr (by decide))
          have eh546_t2 : ri_at h546 117 2 = ri_at h538 117 2 := ri_ne wh546 (.inr (by decide))
          have eh546_t3 : ri_at h546 117 3 = x545.toInt := ri_self wh546
          have eh546_t4 : ri_at h546 117 4 = ri_at h538 117 4 := ri_ne wh546 (.inr (by decide))
          have eh546_t5 : ri_at h546 117 5 = ri_at h538 117 5 := ri_ne wh546 (.inr (by decide))
          have eh546_t6 : ri_at h546 117 6 = ri_at h538 117 6 := ri_ne wh546 (.inr (by decide))
          have eh546_t7 : ri_at h546 117 7 = ri_at h538 117 7 := ri_ne wh546 (.inr (by decide))
          have q125_h546 : ∀ i, ri_at h546 125 i = ri_at h0 125 i := fun i => (ri_ne wh546 (.inl (by decide))).trans (q125_h538 i)
          have q126_h546 : ∀ i, ri_at h546 126 i = ri_at h0 126 i := fun i => (ri_ne wh546 (.inl (by decide))).trans (q126_h538 i)
          have q127_h546 : ∀ i, ri_at h546 127 i = ri_at h0 127 i := fun i => (ri_ne wh546 (.inl (by decide))).trans (q127_h538 i)
          have qa116_h546 : ∀ i, i < 4 → ri_at h546 116 i = ri_at h0 116 (4 + i) := fun i hi => (ri_ne wh546 (.inl (by decide))).trans (qa116_h538 i hi)
          have qb116_h546 : ∀ i, 4 ≤ i → ri_at h546 116 i = ri_at h0 116 i := fun i hi => (ri_ne wh546 (.inl (by decide))).trans (qb116_h538 i hi)
          have q119_h546 : ∀ i, ri_at h546 119 i = ri_at h0 119 i := fun i => (ri_ne wh546 (.inl (by decide))).trans (q119_h538 i)
          have q124_h546 : ∀ i, ri_at h546 124 i = ri_at h0 124 i := fun i => (ri_ne wh546 (.inl (by decide))).trans (q124_h538 i)
          have q118_h546 : ∀ i, ri_at h546 118 i = ri_at h0 118 i := fun i => (ri_ne wh546 (.inl (by decide))).trans (q118_h538 i)
          have q121_h546 : ∀ i, ri_at h546 121 i = ri_at h0 121 i := fun i => (ri_ne wh546 (.inl (by decide))).trans (q121_h538 i)
          have q123_h546 : ∀ i, ri_at h546 123 i = ri_at h0 123 i := fun i => (ri_ne wh546 (.inl (by decide))).trans (q123_h538 i)
          refine ex_incA oq_X12_keepText_78 (v := x539) (m := 1) gL540_1 (by decide) (by omega) (fun L548 x547 hx547 gL548_1 kL548 => ?_)
          have gL548_0 : cv_get L548 0 = some (cv_r 111) := kL548 0 _ (by decide) (fun _ => rfl) gL540_0
          refine ex_go oq_X12_keepText_81 (t := 59) rfl rfl ?_
          refine ex_il oq_X12_keepText_59 gL548_1 ?_
          refine ex_ic oq_X12_keepText_60 (m := 4) (by decide) (fun x549 hx549 => ?_)
          refine ex_if oq_X12_keepText_61 (t := 84) rfl rfl (fun (c550 : x549.toInt ≤ x547.toInt) => ?_) (fun (c550 : ¬ (x549.toInt ≤ x547.toInt)) => ?_)
          · refine ex_al oq_X12_keepText_84 gL548_0 ?_
            refine ex_gf oq_X12_keepText_85 Th546 (k := 111) (d := 12) rfl rfl (fr_gateName Th546) ?_
            refine ex_ic oq_X12_keepText_88 (m := 4) (by decide) (fun x551 hx551 => ?_)
            refine ex_cs oq_X12_keepText_89 (by decide) (as := [cv_r 118, cv_i x551]) (stk := []) rfl rfl rfl ⟨rfl, rfl⟩ (R := fun o => ∃ hb : cv_H, o = (none, hb) ∧ cw_T _ hb ∧ cp_F 118 h546 hb ∧ (∀ i, i < 4 → ri_at hb 118 i = ri_at h546 118 (4 + i)) ∧ (∀ i, 4 ≤ i → ri_at hb 118 i = ri_at h546 118 i)) (sp_copies Th546 (R := 118) (d := 57) rfl rfl x551 4 (by omega) (by decide) (by decide) (by decide) (fun hb a1 a2 a3 a4 => ⟨hb, rfl, a1, a2, a3, a4⟩)) (fun o ho => ?_)
            obtain ⟨h552, rfl, Th552, ch552, kah552, kbh552⟩ := ho
            show cw_X _ _ _ _ _ [] h552
            have Fh552 : cw_Fr cw_Ds cw_sh mk_k1 h0 h552 := cw_Fr_tr Fh546 (cp_Fr ch552 (d := 57) rfl rfl (by decide +kernel))
            have eh552_14 : ri_at h552 111 14 = ri_at h546 111 14 := cp_ri ch552 (by decide)
            have eh552_16 : ri_at h552 111 16 = ri_at h546 111 16 := cp_ri ch552 (by decide)
            have eh552_18 : ri_at h552 111 18 = ri_at h546 111 18 := cp_ri ch552 (by decide)
            have eh552_12 : ri_at h552 111 12 = ri_at h546 111 12 := cp_ri ch552 (by decide)
            have eh552_13 : ri_at h552 111 13 = ri_at h546 111 13 := cp_ri ch552 (by decide)
            have eh552_15 : ri_at h552 111 15 = ri_at h546 111 15 := cp_ri ch552 (by decide)
            have eh552_17 : ri_at h552 111 17 = ri_at h546 111 17 := cp_ri ch552 (by decide)
            have eh552_19 : ri_at h552 111 19 = ri_at h546 111 19 := cp_ri ch552 (by decide)
            have eh552_t0 : ri_at h552 117 0 = ri_at h546 117 0 := cp_ri ch552 (by decide)
            have eh552_t1 : ri_at h552 117 1 = ri_at h546 117 1 := cp_ri ch552 (by decide)
            have eh552_t2 : ri_at h552 117 2 = ri_at h546 117 2 := cp_ri ch552 (by decide)
            have eh552_t3 : ri_at h552 117 3 = ri_at h546 117 3 := cp_ri ch552 (by decide)
            have eh552_t4 : ri_at h552 117 4 = ri_at h546 117 4 := cp_ri ch552 (by decide)
            have eh552_t5 : ri_at h552 117 5 = ri_at h546 117 5 := cp_ri ch552 (by decide)
            have eh552_t6 : ri_at h552 117 6 = ri_at h546 117 6 := cp_ri ch552 (by decide)
            have eh552_t7 : ri_at h552 117 7 = ri_at h546 117 7 := cp_ri ch552 (by decide)
            have q125_h552 : ∀ i, ri_at h552 125 i = ri_at h0 125 i := fun i => (cp_ri ch552 (by decide)).trans (q125_h546 i)
            have q126_h552 : ∀ i, ri_at h552 126 i = ri_at h0 126 i := fun i => (cp_ri ch552 (by decide)).trans (q126_h546 i)
            have q127_h552 : ∀ i, ri_at h552 127 i = ri_at h0 127 i := fun i => (cp_ri ch552 (by decide)).trans (q127_h546 i)
            have qa116_h552 : ∀ i, i < 4 → ri_at h552 116 i = ri_at h0 116 (4 + i) := fun i hi => (cp_ri ch552 (by decide)).trans (qa116_h546 i hi)
            have qb116_h552 : ∀ i, 4 ≤ i → ri_at h552 116 i = ri_at h0 116 i := fun i hi => (cp_ri ch552 (by decide)).trans (qb116_h546 i hi)
            have q119_h552 : ∀ i, ri_at h552 119 i = ri_at h0 119 i := fun i => (cp_ri ch552 (by decide)).trans (q119_h546 i)
            have q124_h552 : ∀ i, ri_at h552 124 i = ri_at h0 124 i := fun i => (cp_ri ch552 (by decide)).trans (q124_h546 i)
            have qa118_h552 : ∀ i, i < 4 → ri_at h552 118 i = ri_at h0 118 (4 + i) := fun i hi => (kah552 i hi).trans (q118_h546 _)
            have qb118_h552 : ∀ i, 4 ≤ i → ri_at h552 118 i = ri_at h0 118 i := fun i hi => (kbh552 i hi).trans (q118_h546 _)
            have q121_h552 : ∀ i, ri_at h552 121 i = ri_at h0 121 i := fun i => (cp_ri ch552 (by decide)).trans (q121_h546 i)
            have q123_h552 : ∀ i, ri_at h552 123 i = ri_at h0 123 i := fun i => (cp_ri ch552 (by decide)).trans (q123_h546 i)
            refine ex_al oq_X12_keepText_92 gL548_0 ?_
            refine ex_gf oq_X12_keepText_93 Th552 (k := 111) (d := 12) rfl rfl (fr_gateHas Th552) ?_
            refine ex_bi oq_X12_keepText_96 (m := 64) (by decide) (fun x553 hx553 => ?_)
            refine ex_cs oq_X12_keepText_98 (by decide) (as := [cv_r 119, cv_i x553]) (stk := []) rfl rfl rfl ⟨rfl, rfl⟩ (R := fun o => ∃ hb : cv_H, o = (none, hb) ∧ cw_T _ hb ∧ cp_F 119 h552 hb ∧ (∀ i, i < 64 → ri_at hb 119 i = ri_at h552 119 (64 + i)) ∧ (∀ i, 64 ≤ i → ri_at hb 119 i = ri_at h552 119 i)) (sp_copies Th552 (R := 119) (d := 58) rfl rfl x553 64 (by omega) (by decide) (by decide) (by decide) (fun hb a1 a2 a3 a4 => ⟨hb, rfl, a1, a2, a3, a4⟩)) (fun o ho => ?_)
            obtain ⟨h554, rfl, Th554, ch554, kah554, kbh554⟩ := ho
            show cw_X _ _ _ _ _ [] h554
            have Fh554 : cw_Fr cw_Ds cw_sh mk_k1 h0 h554 := cw_Fr_tr Fh552 (cp_Fr ch554 (d := 58) rfl rfl (by decide +kernel))
            have eh554_14 : ri_at h554 111 14 = ri_at h552 111 14 := cp_ri ch554 (by decide)
            have eh554_16 : ri_at h554 111 16 = ri_at h552 111 16 := cp_ri ch554 (by decide)
            have eh554_18 : ri_at h554 111 18 = ri_at h552 111 18 := cp_ri ch554 (by decide)
            have eh554_12 : ri_at h554 111 12 = ri_at h552 111 12 := cp_ri ch554 (by decide)
            have eh554_13 : ri_at h554 111 13 = ri_at h552 111 13 := cp_ri ch554 (by decide)
            have eh554_15 : ri_at h554 111 15 = ri_at h552 111 15 := cp_ri ch554 (by decide)
            have eh554_17 : ri_at h554 111 17 = ri_at h552 111 17 := cp_ri ch554 (by decide)
            have eh554_19 : ri_at h554 111 19 = ri_at h552 111 19 := cp_ri ch554 (by decide)
            have eh554_t0 : ri_at h554 117 0 = ri_at h552 117 0 := cp_ri ch554 (by decide)
            have eh554_t1 : ri_at h554 117 1 = ri_at h552 117 1 := cp_ri ch554 (by decide)
            have eh554_t2 : ri_at h554 117 2 = ri_at h552 117 2 := cp_ri ch554 (by decide)
            have eh554_t3 : ri_at h554 117 3 = ri_at h552 117 3 := cp_ri ch554 (by decide)
            have eh554_t4 : ri_at h554 117 4 = ri_at h552 117 4 := cp_ri ch554 (by decide)
            have eh554_t5 : ri_at h554 117 5 = ri_at h552 117 5 := cp_ri ch554 (by decide)
            have eh554_t6 : ri_at h554 117 6 = ri_at h552 117 6 := cp_ri ch554 (by decide)
            have eh554_t7 : ri_at h554 117 7 = ri_at h552 117 7 := cp_ri ch554 (by decide)
            have q125_h554 : ∀ i, ri_at h554 125 i = ri_at h0 125 i := fun i => (cp_ri ch554 (by decide)).trans (q125_h552 i)
            have q126_h554 : ∀ i, ri_at h554 126 i = ri_at h0 126 i := fun i => (cp_ri ch554 (by decide)).trans (q126_h552 i)
            have q127_h554 : ∀ i, ri_at h554 127 i = ri_at h0 127 i := fun i => (cp_ri ch554 (by decide)).trans (q127_h552 i)
            have qa116_h554 : ∀ i, i < 4 → ri_at h554 116 i = ri_at h0 116 (4 + i) := fun i hi => (cp_ri ch554 (by decide)).trans (qa116_h552 i hi)
            have qb116_h554 : ∀ i, 4 ≤ i → ri_at h554 116 i = ri_at h0 116 i := fun i hi => (cp_ri ch554 (by decide)).trans (qb116_h552 i hi)
            have qa119_h554 : ∀ i, i < 64 → ri_at h554 119 i = ri_at h0 119 (64 + i) := fun i hi => (kah554 i hi).trans (q119_h552 _)
            have qb119_h554 : ∀ i, 64 ≤ i → ri_at h554 119 i = ri_at h0 119 i := fun i hi => (kbh554 i hi).trans (q119_h552 _)
            have q124_h554 : ∀ i, ri_at h554 124 i = ri_at h0 124 i := fun i => (cp_ri ch554 (by decide)).trans (q124_h552 i)
            have qa118_h554 : ∀ i, i < 4 → ri_at h554 118 i = ri_at h0 118 (4 + i) := fun i hi => (cp_ri ch554 (by decide)).trans (qa118_h552 i hi)
            have qb118_h554 : ∀ i, 4 ≤ i → ri_at h554 118 i = ri_at h0 118 i := fun i hi => (cp_ri ch554 (by decide)).trans (qb118_h552 i hi)
            have q121_h554 : ∀ i, ri_at h554 121 i = ri_at h0 121 i := fun i => (cp_ri ch554 (by decide)).trans (q121_h552 i)
            have q123_h554 : ∀ i, ri_at h554 123 i = ri_at h0 123 i := fun i => (cp_ri ch554 (by decide)).trans (q123_h552 i)
            refine ex_al oq_X12_keepText_101 gL548_0 ?_
            refine ex_gf oq_X12_keepText_102 Th554 (k := 111) (d := 12) rfl rfl (fr_rise Th554) ?_
            refine ex_bi oq_X12_keepText_105 (m := 36) (by decide) (fun x555 hx555 => ?_)
            refine ex_cs oq_X12_keepText_107 (by decide) (as := [cv_r 120, cv_i x555]) (stk := []) rfl rfl rfl ⟨rfl, rfl⟩ (R := fun o => ∃ hb : cv_H, o = (none, hb) ∧ cw_T _ hb ∧ cp_F 120 h554 hb ∧ (∀ i, i < 36 → ri_at hb 120 i = ri_at h554 120 (36 + i)) ∧ (∀ i, 36 ≤ i → ri_at hb 120 i = ri_at h554 120 i)) (sp_copies Th554 (R := 120) (d := 59) rfl rfl x555 36 (by omega) (by decide) (by decide) (by decide) (fun hb a1 a2 a3 a4 => ⟨hb, rfl, a1, a2, a3, a4⟩)) (fun o ho => ?_)
            obtain ⟨h556, rfl, Th556, ch556, kah556, kbh556⟩ := ho
            show cw_X _ _ _ _ _ [] h556
            have Fh556 : cw_Fr cw_Ds cw_sh mk_k1 h0 h556 := cw_Fr_tr Fh554 (cp_Fr ch556 (d := 59) rfl rfl (by decide +kernel))
            have eh556_14 : ri_at h556 111 14 = ri_at h554 111 14 := cp_ri ch556 (by decide)
            have eh556_16 : ri_at h556 111 16 = ri_at h554 111 16 := cp_ri ch556 (by decide)
            have eh556_18 : ri_at h556 111 18 = ri_at h554 111 18 := cp_ri ch556 (by decide)
            have eh556_12 : ri_at h556 111 12 = ri_at h554 111 12 := cp_ri ch556 (by decide)
            have eh556_13 : ri_at h556 111 13 = ri_at h554 111 13 := cp_ri ch556 (by decide)
            have eh556_15 : ri_at h556 111 15 = ri_at h554 111 15 := cp_ri ch556 (by decide)
            have eh556_17 : ri_at h556 111 17 = ri_at h554 111 17 := cp_ri ch556 (by decide)
            have eh556_19 : ri_at h556 111 19 = ri_at h554 111 19 := cp_ri ch556 (by decide)
            have eh556_t0 : ri_at h556 117 0 = ri_at h554 117 0 := cp_ri ch556 (by decide)
            have eh556_t1 : ri_at h556 117 1 = ri_at h554 117 1 := cp_ri ch556 (by decide)
            have eh556_t2 : ri_at h556 117 2 = ri_at h554 117 2 := cp_ri ch556 (by decide)
            have eh556_t3 : ri_at h556 117 3 = ri_at h554 117 3 := cp_ri ch556 (by decide)
            have eh556_t4 : ri_at h556 117 4 = ri_at h554 117 4 := cp_ri ch556 (by decide)
            have eh556_t5 : ri_at h556 117 5 = ri_at h554 117 5 := cp_ri ch556 (by decide)
            have eh556_t6 : ri_at h556 117 6 = ri_at h554 117 6 := cp_ri ch556 (by decide)
            have eh556_t7 : ri_at h556 117 7 = ri_at h554 117 7 := cp_ri ch556 (by decide)
            have q125_h556 : ∀ i, ri_at h556 125 i = ri_at h0 125 i := fun i => (cp_ri ch556 (by decide)).trans (q125_h554 i)
            have q126_h556 : ∀ i, ri_at h556 126 i = ri_at h0 126 i := fun i => (cp_ri ch556 (by decide)).trans (q126_h554 i)
            have q127_h556 : ∀ i, ri_at h556 127 i = ri_at h0 127 i := fun i => (cp_ri ch556 (by decide)).trans (q127_h554 i)
            have qa116_h556 : ∀ i, i < 4 → ri_at h556 116 i = ri_at h0 116 (4 + i) := fun i hi => (cp_ri ch556 (by decide)).trans (qa116_h554 i hi)
            have qb116_h556 : ∀ i, 4 ≤ i → ri_at h556 116 i = ri_at h0 116 i := fun i hi => (cp_ri ch556 (by decide)).trans (qb116_h554 i hi)
            have qa119_h556 : ∀ i, i < 64 → ri_at h556 119 i = ri_at h0 119 (64 + i) := fun i hi => (cp_ri ch556 (by decide)).trans (qa119_h554 i hi)
            have qb119_h556 : ∀ i, 64 ≤ i → ri_at h556 119 i = ri_at h0 119 i := fun i hi => (cp_ri ch556 (by decide)).trans (qb119_h554 i hi)
            have q124_h556 : ∀ i, ri_at h556 124 i = ri_at h0 124 i := fun i => (cp_ri ch556 (by decide)).trans (q124_h554 i)
            have qa118_h556 : ∀ i, i < 4 → ri_at h556 118 i = ri_at h0 118 (4 + i) := fun i hi => (cp_ri ch556 (by decide)).trans (qa118_h554 i hi)
            have qb118_h556 : ∀ i, 4 ≤ i → ri_at h556 118 i = ri_at h0 118 i := fun i hi => (cp_ri ch556 (by decide)).trans (qb118_h554 i hi)
            have q121_h556 : ∀ i, ri_at h556 121 i = ri_at h0 121 i := fun i => (cp_ri ch556 (by decide)).trans (q121_h554 i)
            have q123_h556 : ∀ i, ri_at h556 123 i = ri_at h0 123 i := fun i => (cp_ri ch556 (by decide)).trans (q123_h554 i)
            refine ex_al oq_X12_keepText_110 gL548_0 ?_
            refine ex_gf oq_X12_keepText_111 Th556 (k := 111) (d := 12) rfl rfl (fr_workName Th556) ?_
            refine ex_bi oq_X12_keepText_114 (m := 6) (by decide) (fun x557 hx557 => ?_)
            refine ex_cs oq_X12_keepText_116 (by decide) (as := [cv_r 121, cv_i x557]) (stk := []) rfl rfl rfl ⟨rfl, rfl⟩ (R := fun o => ∃ hb : cv_H, o = (none, hb) ∧ cw_T _ hb ∧ cp_F 121 h556 hb ∧ (∀ i, i < 6 → ri_at hb 121 i = ri_at h556 121 (6 + i)) ∧ (∀ i, 6 ≤ i → ri_at hb 121 i = ri_at h556 121 i)) (sp_copies Th556 (R := 121) (d := 60) rfl rfl x557 6 (by omega) (by decide) (by decide) (by decide) (fun hb a1 a2 a3 a4 => ⟨hb, rfl, a1, a2, a3, a4⟩)) (fun o ho => ?_)
            obtain ⟨h558, rfl, Th558, ch558, kah558, kbh558⟩ := ho
            show cw_X _ _ _ _ _ [] h558
            have Fh558 : cw_Fr cw_Ds cw_sh mk_k1 h0 h558 := cw_Fr_tr Fh556 (cp_Fr ch558 (d := 60) rfl rfl (by decide +kernel))
            have eh558_14 : ri_at h558 111 14 = ri_at h556 111 14 := cp_ri ch558 (by decide)
            have eh558_16 : ri_at h558 111 16 = ri_at h556 111 16 := cp_ri ch558 (by decide)
            have eh558_18 : ri_at h558 111 18 = ri_at h556 111 18 := cp_ri ch558 (by decide)
            have eh558_12 : ri_at h558 111 12 = ri_at h556 111 12 := cp_ri ch558 (by decide)
            have eh558_13 : ri_at h558 111 13 = ri_at h556 111 13 := cp_ri ch558 (by decide)
            have eh558_15 : ri_at h558 111 15 = ri_at h556 111 15 := cp_ri ch558 (by decide)
            have eh558_17 : ri_at h558 111 17 = ri_at h556 111 17 := cp_ri ch558 (by decide)
            have eh558_19 : ri_at h558 111 19 = ri_at h556 111 19 := cp_ri ch558 (by decide)
            have eh558_t0 : ri_at h558 117 0 = ri_at h556 117 0 := cp_ri ch558 (by decide)
            have eh558_t1 : ri_at h558 117 1 = ri_at h556 117 1 := cp_ri ch558 (by decide)
            have eh558_t2 : ri_at h558 117 2 = ri_at h556 117 2 := cp_ri ch558 (by decide)
            have eh558_t3 : ri_at h558 117 3 = ri_at h556 117 3 := cp_ri ch558 (by decide)
            have eh558_t4 : ri_at h558 117 4 = ri_at h556 117 4 := cp_ri ch558 (by decide)
            have eh558_t5 : ri_at h558 117 5 = ri_at h556 117 5 := cp_ri ch558 (by decide)
            have eh558_t6 : ri_at h558 117 6 = ri_at h556 117 6 := cp_ri ch558 (by decide)
            have eh558_t7 : ri_at h558 117 7 = ri_at h556 117 7 := cp_ri ch558 (by decide)
            have q125_h558 : ∀ i, ri_at h558 125 i = ri_at h0 125 i := fun i => (cp_ri ch558 (by decide)).trans (q125_h556 i)
            have q126_h558 : ∀ i, ri_at h558 126 i = ri_at h0 126 i := fun i => (cp_ri ch558 (by decide)).trans (q126_h556 i)
            have q127_h558 : ∀ i, ri_at h558 127 i = ri_at h0 127 i := fun i => (cp_ri ch558 (by decide)).trans (q127_h556 i)
            have qa116_h558 : ∀ i, i < 4 → ri_at h558 116 i = ri_at h0 116 (4 + i) := fun i hi => (cp_ri ch558 (by decide)).trans (qa116_h556 i hi)
            have qb116_h558 : ∀ i, 4 ≤ i → ri_at h558 116 i = ri_at h0 116 i := fun i hi => (cp_ri ch558 (by decide)).trans (qb116_h556 i hi)
            have qa119_h558 : ∀ i, i < 64 → ri_at h558 119 i = ri_at h0 119 (64 + i) := fun i hi => (cp_ri ch558 (by decide)).trans (qa119_h556 i hi)
            have qb119_h558 : ∀ i, 64 ≤ i → ri_at h558 119 i = ri_at h0 119 i := fun i hi => (cp_ri ch558 (by decide)).trans (qb119_h556 i hi)
            have q124_h558 : ∀ i, ri_at h558 124 i = ri_at h0 124 i := fun i => (cp_ri ch558 (by decide)).trans (q124_h556 i)
            have qa118_h558 : ∀ i, i < 4 → ri_at h558 118 i = ri_at h0 118 (4 + i) := fun i hi => (cp_ri ch558 (by decide)).trans (qa118_h556 i hi)
            have qb118_h558 : ∀ i, 4 ≤ i → ri_at h558 118 i = ri_at h0 118 i := fun i hi => (cp_ri ch558 (by decide)).trans (qb118_h556 i hi)
            have qa121_h558 : ∀ i, i < 6 → ri_at h558 121 i = ri_at h0 121 (6 + i) := fun i hi => (kah558 i hi).trans (q121_h556 _)
            have qb121_h558 : ∀ i, 6 ≤ i → ri_at h558 121 i = ri_at h0 121 i := fun i hi => (kbh558 i hi).trans (q121_h556 _)
            have q123_h558 : ∀ i, ri_at h558 123 i = ri_at h0 123 i := fun i => (cp_ri ch558 (by decide)).trans (q123_h556 i)
            refine ex_al oq_X12_keepText_119 gL548_0 ?_
            refine ex_gf oq_X12_keepText_120 Th558 (k := 111) (d := 12) rfl rfl (fr_workHas Th558) ?_
            refine ex_bi oq_X12_keepText_123 (m := 18) (by decide) (fun x559 hx559 => ?_)
            refine ex_cs oq_X12_keepText_125 (by decide) (as := [cv_r 122, cv_i x559]) (stk := []) rfl rfl rfl ⟨rfl, rfl⟩ (R := fun o => ∃ hb : cv_H, o = (none, hb) ∧ cw_T _ hb ∧ cp_F 122 h558 hb ∧ (∀ i, i < 18 → ri_at hb 122 i = ri_at h558 122 (18 + i)) ∧ (∀ i, 18 ≤ i → ri_at hb 122 i = ri_at h558 122 i)) (sp_copies Th558 (R := 122) (d := 61) rfl rfl x559 18 (by omega) (by decide) (by decide) (by decide) (fun hb a1 a2 a3 a4 => ⟨hb, rfl, a1, a2, a3, a4⟩)) (fun o ho => ?_)
            obtain ⟨h560, rfl, Th560, ch560, kah560, kbh560⟩ := ho
            show cw_X _ _ _ _ _ [] h560
            have Fh560 : cw_Fr cw_Ds cw_sh mk_k1 h0 h560 := cw_Fr_tr Fh558 (cp_Fr ch560 (d := 61) rfl rfl (by decide +kernel))
            have eh560_14 : ri_at h560 111 14 = ri_at h558 111 14 := cp_ri ch560 (by decide)
            have eh560_16 : ri_at h560 111 16 = ri_at h558 111 16 := cp_ri ch560 (by decide)
            have eh560_18 : ri_at h560 111 18 = ri_at h558 111 18 := cp_ri ch560 (by decide)
            have eh560_12 : ri_at h560 111 12 = ri_at h558 111 12 := cp_ri ch560 (by decide)
            have eh560_13 : ri_at h560 111 13 = ri_at h558 111 13 := cp_ri ch560 (by decide)
            have eh560_15 : ri_at h560 111 15 = ri_at h558 111 15 := cp_ri ch560 (by decide)
            have eh560_17 : ri_at h560 111 17 = ri_at h558 111 17 := cp_ri ch560 (by decide)
            have eh560_19 : ri_at h560 111 19 = ri_at h558 111 19 := cp_ri ch560 (by decide)
            have eh560_t0 : ri_at h560 117 0 = ri_at h558 117 0 := cp_ri ch560 (by decide)
            have eh560_t1 : ri_at h560 117 1 = ri_at h558 117 1 := cp_ri ch560 (by decide)
            have eh560_t2 : ri_at h560 117 2 = ri_at h558 117 2 := cp_ri ch560 (by decide)
            have eh560_t3 : ri_at h560 117 3 = ri_at h558 117 3 := cp_ri ch560 (by decide)
            have eh560_t4 : ri_at h560 117 4 = ri_at h558 117 4 := cp_ri ch560 (by decide)
            have eh560_t5 : ri_at h560 117 5 = ri_at h558 117 5 := cp_ri ch560 (by decide)
            have eh560_t6 : ri_at h560 117 6 = ri_at h558 117 6 := cp_ri ch560 (by decide)
            have eh560_t7 : ri_at h560 117 7 = ri_at h558 117 7 := cp_ri ch560 (by decide)
            have q125_h560 : ∀ i, ri_at h560 125 i = ri_at h0 125 i := fun i => (cp_ri ch560 (by decide)).trans (q125_h558 i)
            have q126_h560 : ∀ i, ri_at h560 126 i = ri_at h0 126 i := fun i => (cp_ri ch560 (by decide)).trans (q126_h558 i)
            have q127_h560 : ∀ i, ri_at h560 127 i = ri_at h0 127 i := fun i => (cp_ri ch560 (by decide)).trans (q127_h558 i)
            have qa116_h560 : ∀ i, i < 4 → ri_at h560 116 i = ri_at h0 116 (4 + i) := fun i hi => (cp_ri ch560 (by decide)).trans (qa116_h558 i hi)
            have qb116_h560 : ∀ i, 4 ≤ i → ri_at h560 116 i = ri_at h0 116 i := fun i hi => (cp_ri ch560 (by decide)).trans (qb116_h558 i hi)
            have qa119_h560 : ∀ i, i < 64 → ri_at h560 119 i = ri_at h0 119 (64 + i) := fun i hi => (cp_ri ch560 (by decide)).trans (qa119_h558 i hi)
            have qb119_h560 : ∀ i, 64 ≤ i → ri_at h560 119 i = ri_at h0 119 i := fun i hi => (cp_ri ch560 (by decide)).trans (qb119_h558 i hi)
            have q124_h560 : ∀ i, ri_at h560 124 i = ri_at h0 124 i := fun i => (cp_ri ch560 (by decide)).trans (q124_h558 i)
            have qa118_h560 : ∀ i, i < 4 → ri_at h560 118 i = ri_at h0 118 (4 + i) := fun i hi => (cp_ri ch560 (by decide)).trans (qa118_h558 i hi)
            have qb118_h560 : ∀ i, 4 ≤ i → ri_at h560 118 i = ri_at h0 118 i := fun i hi => (cp_ri ch560 (by decide)).trans (qb118_h558 i hi)
            have qa121_h560 : ∀ i, i < 6 → ri_at h560 121 i = ri_at h0 121 (6 + i) := fun i hi => (cp_ri ch560 (by decide)).trans (qa121_h558 i hi)
            have qb121_h560 : ∀ i, 6 ≤ i → ri_at h560 121 i = ri_at h0 121 i := fun i hi => (cp_ri ch560 (by decide)).trans (qb121_h558 i hi)
            have q123_h560 : ∀ i, ri_at h560 123 i = ri_at h0 123 i := fun i => (cp_ri ch560 (by decide)).trans (q123_h558 i)
            refine ex_al oq_X12_keepText_128 gL548_0 ?_
            refine ex_gf oq_X12_keepText_129 Th560 (k := 111) (d := 12) rfl rfl (fr_causeName Th560) ?_
            refine ex_bi oq_X12_keepText_132 (m := 6) (by decide) (fun x561 hx561 => ?_)
            refine ex_cs oq_X12_keepText_134 (by decide) (as := [cv_r 123, cv_i x561]) (stk := []) rfl rfl rfl ⟨rfl, rfl⟩ (R := fun o => ∃ hb : cv_H, o = (none, hb) ∧ cw_T _ hb ∧ cp_F 123 h560 hb ∧ (∀ i, i < 6 → ri_at hb 123 i = ri_at h560 123 (6 + i)) ∧ (∀ i, 6 ≤ i → ri_at hb 123 i = ri_at h560 123 i)) (sp_copies Th560 (R := 123) (d := 62) rfl rfl x561 6 (by omega) (by decide) (by decide) (by decide) (fun hb a1 a2 a3 a4 => ⟨hb, rfl, a1, a2, a3, a4⟩)) (fun o ho => ?_)
            obtain ⟨h562, rfl, Th562, ch562, kah562, kbh562⟩ := ho
            show cw_X _ _ _ _ _ [] h562
            have Fh562 : cw_Fr cw_Ds cw_sh mk_k1 h0 h562 := cw_Fr_tr Fh560 (cp_Fr ch562 (d := 62) rfl rfl (by decide +kernel))
            have eh562_14 : ri_at h562 111 14 = ri_at h560 111 14 := cp_ri ch562 (by decide)
            have eh562_16 : ri_at h562 111 16 = ri_at h560 111 16 := cp_ri ch562 (by decide)
            have eh562_18 : ri_at h562 111 18 = ri_at h560 111 18 := cp_ri ch562 (by decide)
            have eh562_12 : ri_at h562 111 12 = ri_at h560 111 12 := cp_ri ch562 (by decide)
            have eh562_13 : ri_at h562 111 13 = ri_at h560 111 13 := cp_ri ch562 (by decide)
            have eh562_15 : ri_at h562 111 15 = ri_at h560 111 15 := cp_ri ch562 (by decide)
            have eh562_17 : ri_at h562 111 17 = ri_at h560 111 17 := cp_ri ch562 (by decide)
            have eh562_19 : ri_at h562 111 19 = ri_at h560 111 19 := cp_ri ch562 (by decide)
            have eh562_t0 : ri_at h562 117 0 = ri_at h560 117 0 := cp_ri ch562 (by decide)
            have eh562_t1 : ri_at h562 117 1 = ri_at h560 117 1 := cp_ri ch562 (by decide)
            have eh562_t2 : ri_at h562 117 2 = ri_at h560 117 2 := cp_ri ch562 (by decide)
            have eh562_t3 : ri_at h562 117 3 = ri_at h560 117 3 := cp_ri ch562 (by decide)
            have eh562_t4 : ri_at h562 117 4 = ri_at h560 117 4 := cp_ri ch562 (by decide)
            have eh562_t5 : ri_at h562 117 5 = ri_at h560 117 5 := cp_ri ch562 (by decide)
            have eh562_t6 : ri_at h562 117 6 = ri_at h560 117 6 := cp_ri ch562 (by decide)
            have eh562_t7 : ri_at h562 117 7 = ri_at h560 117 7 := cp_ri ch562 (by decide)
            have q125_h562 : ∀ i, ri_at h562 125 i = ri_at h0 125 i := fun i => (cp_ri ch562 (by decide)).trans (q125_h560 i)
            have q126_h562 : ∀ i, ri_at h562 126 i = ri_at h0 126 i := fun i => (cp_ri ch562 (by decide)).trans (q126_h560 i)
            have q127_h562 : ∀ i, ri_at h562 127 i = ri_at h0 127 i := fun i => (cp_ri ch562 (by decide)).trans (q127_h560 i)
            have qa116_h562 : ∀ i, i < 4 → ri_at h562 116 i = ri_at h0 116 (4 + i) := fun i hi => (cp_ri ch562 (by decide)).trans (qa116_h560 i hi)
            have qb116_h562 : ∀ i, 4 ≤ i → ri_at h562 116 i = ri_at h0 116 i := fun i hi => (cp_ri ch562 (by decide)).trans (qb116_h560 i hi)
            have qa119_h562 : ∀ i, i < 64 → ri_at h562 119 i = ri_at h0 119 (64 + i) := fun i hi => (cp_ri ch562 (by decide)).trans (qa119_h560 i hi)
            have qb119_h562 : ∀ i, 64 ≤ i → ri_at h562 119 i = ri_at h0 119 i := fun i hi => (cp_ri ch562 (by decide)).trans (qb119_h560 i hi)
            have q124_h562 : ∀ i, ri_at h562 124 i = ri_at h0 124 i := fun i => (cp_ri ch562 (by decide)).trans (q124_h560 i)
            have qa118_h562 : ∀ i, i < 4 → ri_at h562 118 i = ri_at h0 118 (4 + i) := fun i hi => (cp_ri ch562 (by decide)).trans (qa118_h560 i hi)
            have qb118_h562 : ∀ i, 4 ≤ i → ri_at h562 118 i = ri_at h0 118 i := fun i hi => (cp_ri ch562 (by decide)).trans (qb118_h560 i hi)
            have qa121_h562 : ∀ i, i < 6 → ri_at h562 121 i = ri_at h0 121 (6 + i) := fun i hi => (cp_ri ch562 (by decide)).trans (qa121_h560 i hi)
            have qb121_h562 : ∀ i, 6 ≤ i → ri_at h562 121 i = ri_at h0 121 i := fun i hi => (cp_ri ch562 (by decide)).trans (qb121_h560 i hi)
            have qa123_h562 : ∀ i, i < 6 → ri_at h562 123 i = ri_at h0 123 (6 + i) := fun i hi => (kah562 i hi).trans (q123_h560 _)
            have qb123_h562 : ∀ i, 6 ≤ i → ri_at h562 123 i = ri_at h0 123 i := fun i hi => (kbh562 i hi).trans (q123_h560 _)
            refine ex_al oq_X12_keepText_137 gL548_0 ?_
            refine ex_gf oq_X12_keepText_138 Th562 (k := 111) (d := 12) rfl rfl (fr_causeHas Th562) ?_
            refine ex_bi oq_X12_keepText_141 (m := 18) (by decide) (fun x563 hx563 => ?_)
            refine ex_cs oq_X12_keepText_143 (by decide) (as := [cv_r 124, cv_i x563]) (stk := []) rfl rfl rfl ⟨rfl, rfl⟩ (R := fun o => ∃ hb : cv_H, o = (none, hb) ∧ cw_T _ hb ∧ cp_F 124 h562 hb ∧ (∀ i, i < 18 → ri_at hb 124 i = ri_at h562 124 (18 + i)) ∧ (∀ i, 18 ≤ i → ri_at hb 124 i = ri_at h562 124 i)) (sp_copies Th562 (R := 124) (d := 63) rfl rfl x563 18 (by omega) (by decide) (by decide) (by decide) (fun hb a1 a2 a3 a4 => ⟨hb, rfl, a1, a2, a3, a4⟩)) (fun o ho => ?_)
            obtain ⟨h564, rfl, Th564, ch564, kah564, kbh564⟩ := ho
            show cw_X _ _ _ _ _ [] h564
            have Fh564 : cw_Fr cw_Ds cw_sh mk_k1 h0 h564 := cw_Fr_tr Fh562 (cp_Fr ch564 (d := 63) rfl rfl (by decide +kernel))
            have eh564_14 : ri_at h564 111 14 = ri_at h562 111 14 := cp_ri ch564 (by decide)
            have eh564_16 : ri_at h564 111 16 = ri_at h562 111 16 := cp_ri ch564 (by decide)
            have eh564_18 : ri_at h564 111 18 = ri_at h562 111 18 := cp_ri ch564 (by decide)
            have eh564_12 : ri_at h564 111 12 = ri_at h562 111 12 := cp_ri ch564 (by decide)
            have eh564_13 : ri_at h564 111 13 = ri_at h562 111 13 := cp_ri ch564 (by decide)
            have eh564_15 : ri_at h564 111 15 = ri_at h562 111 15 := cp_ri ch564 (by decide)
            have eh564_17 : ri_at h564 111 17 = ri_at h562 111 17 := cp_ri ch564 (by decide)
            have eh564_19 : ri_at h564 111 19 = ri_at h562 111 19 := cp_ri ch564 (by decide)
            have eh564_t0 : ri_at h564 117 0 = ri_at h562 117 0 := cp_ri ch564 (by decide)
            have eh564_t1 : ri_at h564 117 1 = ri_at h562 117 1 := cp_ri ch564 (by decide)
            have eh564_t2 : ri_at h564 117 2 = ri_at h562 117 2 := cp_ri ch564 (by decide)
            have eh564_t3 : ri_at h564 117 3 = ri_at h562 117 3 := cp_ri ch564 (by decide)
            have eh564_t4 : ri_at h564 117 4 = ri_at h562 117 4 := cp_ri ch564 (by decide)
            have eh564_t5 : ri_at h564 117 5 = ri_at h562 117 5 := cp_ri ch564 (by decide)
            have eh564_t6 : ri_at h564 117 6 = ri_at h562 117 6 := cp_ri ch564 (by decide)
            have eh564_t7 : ri_at h564 117 7 = ri_at h562 117 7 := cp_ri ch564 (by decide)
            have q125_h564 : ∀ i, ri_at h564 125 i = ri_at h0 125 i := fun i => (cp_ri ch564 (by decide)).trans (q125_h562 i)
            have q126_h564 : ∀ i, ri_at h564 126 i = ri_at h0 126 i := fun i => (cp_ri ch564 (by decide)).trans (q126_h562 i)
            have q127_h564 : ∀ i, ri_at h564 127 i = ri_at h0 127 i := fun i => (cp_ri ch564 (by decide)).trans (q127_h562 i)
            have qa116_h564 : ∀ i, i < 4 → ri_at h564 116 i = ri_at h0 116 (4 + i) := fun i hi => (cp_ri ch564 (by decide)).trans (qa116_h562 i hi)
            have qb116_h564 : ∀ i, 4 ≤ i → ri_at h564 116 i = ri_at h0 116 i := fun i hi => (cp_ri ch564 (by decide)).trans (qb116_h562 i hi)
            have qa119_h564 : ∀ i, i < 64 → ri_at h564 119 i = ri_at h0 119 (64 + i) := fun i hi => (cp_ri ch564 (by decide)).trans (qa119_h562 i hi)
            have qb119_h564 : ∀ i, 64 ≤ i → ri_at h564 119 i = ri_at h0 119 i := fun i hi => (cp_ri ch564 (by decide)).trans (qb119_h562 i hi)
            have qa124_h564 : ∀ i, i < 18 → ri_at h564 124 i = ri_at h0 124 (18 + i) := fun i hi => (kah564 i hi).trans (q124_h562 _)
            have qb124_h564 : ∀ i, 18 ≤ i → ri_at h564 124 i = ri_at h0 124 i := fun i hi => (kbh564 i hi).trans (q124_h562 _)
            have qa118_h564 : ∀ i, i < 4 → ri_at h564 118 i = ri_at h0 118 (4 + i) := fun i hi => (cp_ri ch564 (by decide)).trans (qa118_h562 i hi)
            have qb118_h564 : ∀ i, 4 ≤ i → ri_at h564 118 i = ri_at h0 118 i := fun i hi => (cp_ri ch564 (by decide)).trans (qb118_h562 i hi)
            have qa121_h564 : ∀ i, i < 6 → ri_at h564 121 i = ri_at h0 121 (6 + i) := fun i hi => (cp_ri ch564 (by decide)).trans (qa121_h562 i hi)
            have qb121_h564 : ∀ i, 6 ≤ i → ri_at h564 121 i = ri_at h0 121 i := fun i hi => (cp_ri ch564 (by decide)).trans (qb121_h562 i hi)
            have qa123_h564 : ∀ i, i < 6 → ri_at h564 123 i = ri_at h0 123 (6 + i) := fun i hi => (cp_ri ch564 (by decide)).trans (qa123_h562 i hi)
            have qb123_h564 : ∀ i, 6 ≤ i → ri_at h564 123 i = ri_at h0 123 i := fun i hi => (cp_ri ch564 (by decide)).trans (qb123_h562 i hi)
            refine ex_al oq_X12_keepText_146 gL548_0 ?_
            refine ex_gf oq_X12_keepText_147 Th564 (k := 111) (d := 12) rfl rfl (fr_knot Th564) ?_
            refine ex_bi oq_X12_keepText_150 (m := 64) (by decide) (fun x565 hx565 => ?_)
            refine ex_cs oq_X12_keepText_152 (by decide) (as := [cv_r 125, cv_i x565]) (stk := []) rfl rfl rfl ⟨rfl, rfl⟩ (R := fun o => ∃ hb : cv_H, o = (none, hb) ∧ cw_T _ hb ∧ cp_F 125 h564 hb ∧ (∀ i, i < 64 → ri_at hb 125 i = ri_at h564 125 (64 + i)) ∧ (∀ i, 64 ≤ i → ri_at hb 125 i = ri_at h564 125 i)) (sp_copies Th564 (R := 125) (d := 64) rfl rfl x565 64 (by omega) (by decide) (by decide) (by decide) (fun hb a1 a2 a3 a4 => ⟨hb, rfl, a1, a2, a3, a4⟩)) (fun o ho => ?_)
            obtain ⟨h566, rfl, Th566, ch566, kah566, kbh566⟩ := ho
            show cw_X _ _ _ _ _ [] h566
            have Fh566 : cw_Fr cw_Ds cw_sh mk_k1 h0 h566 := cw_Fr_tr Fh564 (cp_Fr ch566 (d := 64) rfl rfl (by decide +kernel))
            have eh566_14 : ri_at h566 111 14 = ri_at h564 111 14 := cp_ri ch566 (by decide)
            have eh566_16 : ri_at h566 111 16 = ri_at h564 111 16 := cp_ri ch566 (by decide)
            have eh566_18 : ri_at h566 111 18 = ri_at h564 111 18 := cp_ri ch566 (by decide)
            have eh566_12 : ri_at h566 111 12 = ri_at h564 111 12 := cp_ri ch566 (by decide)
            have eh566_13 : ri_at h566 111 13 = ri_at h564 111 13 := cp_ri ch566 (by decide)
            have eh566_15 : ri_at h566 111 15 = ri_at h564 111 15 := cp_ri ch566 (by decide)
            have eh566_17 : ri_at h566 111 17 = ri_at h564 111 17 := cp_ri ch566 (by decide)
            have eh566_19 : ri_at h566 111 19 = ri_at h564 111 19 := cp_ri ch566 (by decide)
            have eh566_t0 : ri_at h566 117 0 = ri_at h564 117 0 := cp_ri ch566 (by decide)
            have eh566_t1 : ri_at h566 117 1 = ri_at h564 117 1 := cp_ri ch566 (by decide)
            have eh566_t2 : ri_at h566 117 2 = ri_at h564 117 2 := cp_ri ch566 (by decide)
            have eh566_t3 : ri_at h566 117 3 = ri_at h564 117 3 := cp_ri ch566 (by decide)
            have eh566_t4 : ri_at h566 117 4 = ri_at h564 117 4 := cp_ri ch566 (by decide)
            have eh566_t5 : ri_at h566 117 5 = ri_at h564 117 5 := cp_ri ch566 (by decide)
            have eh566_t6 : ri_at h566 117 6 = ri_at h564 117 6 := cp_ri ch566 (by decide)
            have eh566_t7 : ri_at h566 117 7 = ri_at h564 117 7 := cp_ri ch566 (by decide)
            have qa125_h566 : ∀ i, i < 64 → ri_at h566 125 i = ri_at h0 125 (64 + i) := fun i hi => (kah566 i hi).trans (q125_h564 _)
            have qb125_h566 : ∀ i, 64 ≤ i → ri_at h566 125 i = ri_at h0 125 i := fun i hi => (kbh566 i hi).trans (q125_h564 _)
            have q126_h566 : ∀ i, ri_at h566 126 i = ri_at h0 126 i := fun i => (cp_ri ch566 (by decide)).trans (q126_h564 i)
            have q127_h566 : ∀ i, ri_at h566 127 i = ri_at h0 127 i := fun i => (cp_ri ch566 (by decide)).trans (q127_h564 i)
            have qa116_h566 : ∀ i, i < 4 → ri_at h566 116 i = ri_at h0 116 (4 + i) := fun i hi => (cp_ri ch566 (by decide)).trans (qa116_h564 i hi)
            have qb116_h566 : ∀ i, 4 ≤ i → ri_at h566 116 i = ri_at h0 116 i := fun i hi => (cp_ri ch566 (by decide)).trans (qb116_h564 i hi)
            have qa119_h566 : ∀ i, i < 64 → ri_at h566 119 i = ri_at h0 119 (64 + i) := fun i hi => (cp_ri ch566 (by decide)).trans (qa119_h564 i hi)
            have qb119_h566 : ∀ i, 64 ≤ i → ri_at h566 119 i = ri_at h0 119 i := fun i hi => (cp_ri ch566 (by decide)).trans (qb119_h564 i hi)
            have qa124_h566 : ∀ i, i < 18 → ri_at h566 124 i = ri_at h0 124 (18 + i) := fun i hi => (cp_ri ch566 (by decide)).trans (qa124_h564 i hi)
            have qb124_h566 : ∀ i, 18 ≤ i → ri_at h566 124 i = ri_at h0 124 i := fun i hi => (cp_ri ch566 (by decide)).trans (qb124_h564 i hi)
            have qa118_h566 : ∀ i, i < 4 → ri_at h566 118 i = ri_at h0 118 (4 + i) := fun i hi => (cp_ri ch566 (by decide)).trans (qa118_h564 i hi)
            have qb118_h566 : ∀ i, 4 ≤ i → ri_at h566 118 i = ri_at h0 118 i := fun i hi => (cp_ri ch566 (by decide)).trans (qb118_h564 i hi)
            have qa121_h566 : ∀ i, i < 6 → ri_at h566 121 i = ri_at h0 121 (6 + i) := fun i hi => (cp_ri ch566 (by decide)).trans (qa121_h564 i hi)
            have qb121_h566 : ∀ i, 6 ≤ i → ri_at h566 121 i = ri_at h0 121 i := fun i hi => (cp_ri ch566 (by decide)).trans (qb121_h564 i hi)
            have qa123_h566 : ∀ i, i < 6 → ri_at h566 123 i = ri_at h0 123 (6 + i) := fun i hi => (cp_ri ch566 (by decide)).trans (qa123_h564 i hi)
            have qb123_h566 : ∀ i, 6 ≤ i → ri_at h566 123 i = ri_at h0 123 i := fun i hi => (cp_ri ch566 (by decide)).trans (qb123_h564 i hi)
            refine ex_al oq_X12_keepText_155 gL548_0 ?_
            refine ex_gf oq_X12_keepText_156 Th566 (k := 111) (d := 12) rfl rfl (fr_part Th566) ?_
            refine ex_bi oq_X12_keepText_159 (m := 64) (by decide) (fun x567 hx567 => ?_)
            refine ex_cs oq_X12_keepText_161 (by decide) (as := [cv_r 126, cv_i x567]) (stk := []) rfl rfl rfl ⟨rfl, rfl⟩ (R := fun o => ∃ hb : cv_H, o = (none, hb) ∧ cw_T _ hb ∧ cp_F 126 h566 hb ∧ (∀ i, i < 64 → ri_at hb 126 i = ri_at h566 126 (64 + i)) ∧ (∀ i, 64 ≤ i → ri_at hb 126 i = ri_at h566 126 i)) (sp_copies Th566 (R := 126) (d := 65) rfl rfl x567 64 (by omega) (by decide) (by decide) (by decide) (fun hb a1 a2 a3 a4 => ⟨hb, rfl, a1, a2, a3, a4⟩)) (fun o ho => ?_)
            obtain ⟨h568, rfl, Th568, ch568, kah568, kbh568⟩ := ho
            show cw_X _ _ _ _ _ [] h568
            have Fh568 : cw_Fr cw_Ds cw_sh mk_k1 h0 h568 := cw_Fr_tr Fh566 (cp_Fr ch568 (d := 65) rfl rfl (by decide +kernel))
            have eh568_14 : ri_at h568 111 14 = ri_at h566 111 14 := cp_ri ch568 (by decide)
            have eh568_16 : ri_at h568 111 16 = ri_at h566 111 16 := cp_ri ch568 (by decide)
            have eh568_18 : ri_at h568 111 18 = ri_at h566 111 18 := cp_ri ch568 (by decide)
            have eh568_12 : ri_at h568 111 12 = ri_at h566 111 12 := cp_ri ch568 (by decide)
            have eh568_13 : ri_at h568 111 13 = ri_at h566 111 13 := cp_ri ch568 (by decide)
            have eh568_15 : ri_at h568 111 15 = ri_at h566 111 15 := cp_ri ch568 (by decide)
            have eh568_17 : ri_at h568 111 17 = ri_at h566 111 17 := cp_ri ch568 (by decide)
            have eh568_19 : ri_at h568 111 19 = ri_at h566 111 19 := cp_ri ch568 (by decide)
            have eh568_t0 : ri_at h568 117 0 = ri_at h566 117 0 := cp_ri ch568 (by decide)
            have eh568_t1 : ri_at h568 117 1 = ri_at h566 117 1 := cp_ri ch568 (by decide)
            have eh568_t2 : ri_at h568 117 2 = ri_at h566 117 2 := cp_ri ch568 (by decide)
            have eh568_t3 : ri_at h568 117 3 = ri_at h566 117 3 := cp_ri ch568 (by decide)
            have eh568_t4 : ri_at h568 117 4 = ri_at h566 117 4 := cp_ri ch568 (by decide)
            have eh568_t5 : ri_at h568 117 5 = ri_at h566 117 5 := cp_ri ch568 (by decide)
            have eh568_t6 : ri_at h568 117 6 = ri_at h566 117 6 := cp_ri ch568 (by decide)
            have eh568_t7 : ri_at h568 117 7 = ri_at h566 117 7 := cp_ri ch568 (by decide)
            have qa125_h568 : ∀ i, i < 64 → ri_at h568 125 i = ri_at h0 125 (64 + i) := fun i hi => (cp_ri ch568 (by decide)).trans (qa125_h566 i hi)
            have qb125_h568 : ∀ i, 64 ≤ i → ri_at h568 125 i = ri_at h0 125 i := fun i hi => (cp_ri ch568 (by decide)).trans (qb125_h566 i hi)
            have qa126_h568 : ∀ i, i < 64 → ri_at h568 126 i = ri_at h0 126 (64 + i) := fun i hi => (kah568 i hi).trans (q126_h566 _)
            have qb126_h568 : ∀ i, 64 ≤ i → ri_at h568 126 i = ri_at h0 126 i := fun i hi => (kbh568 i hi).trans (q126_h566 _)
            have q127_h568 : ∀ i, ri_at h568 127 i = ri_at h0 127 i := fun i => (cp_ri ch568 (by decide)).trans (q127_h566 i)
            have qa116_h568 : ∀ i, i < 4 → ri_at h568 116 i = ri_at h0 116 (4 + i) := fun i hi => (cp_ri ch568 (by decide)).trans (qa116_h566 i hi)
            have qb116_h568 : ∀ i, 4 ≤ i → ri_at h568 116 i = ri_at h0 116 i := fun i hi => (cp_ri ch568 (by decide)).trans (qb116_h566 i hi)
            have qa119_h568 : ∀ i, i < 64 → ri_at h568 119 i = ri_at h0 119 (64 + i) := fun i hi => (cp_ri ch568 (by decide)).trans (qa119_h566 i hi)
            have qb119_h568 : ∀ i, 64 ≤ i → ri_at h568 119 i = ri_at h0 119 i := fun i hi => (cp_ri ch568 (by decide)).trans (qb119_h566 i hi)
            have qa124_h568 : ∀ i, i < 18 → ri_at h568 124 i = ri_at h0 124 (18 + i) := fun i hi => (cp_ri ch568 (by decide)).trans (qa124_h566 i hi)
            have qb124_h568 : ∀ i, 18 ≤ i → ri_at h568 124 i = ri_at h0 124 i := fun i hi => (cp_ri ch568 (by decide)).trans (qb124_h566 i hi)
            have qa118_h568 : ∀ i, i < 4 → ri_at h568 118 i = ri_at h0 118 (4 + i) := fun i hi => (cp_ri ch568 (by decide)).trans (qa118_h566 i hi)
            have qb118_h568 : ∀ i, 4 ≤ i → ri_at h568 118 i = ri_at h0 118 i := fun i hi => (cp_ri ch568 (by decide)).trans (qb118_h566 i hi)
            have qa121_h568 : ∀ i, i < 6 → ri_at h568 121 i = ri_at h0 121 (6 + i) := fun i hi => (cp_ri ch568 (by decide)).trans (qa121_h566 i hi)
            have qb121_h568 : ∀ i, 6 ≤ i → ri_at h568 121 i = ri_at h0 121 i := fun i hi => (cp_ri ch568 (by decide)).trans (qb121_h566 i hi)
            have qa123_h568 : ∀ i, i < 6 → ri_at h568 123 i = ri_at h0 123 (6 + i) := fun i hi => (cp_ri ch568 (by decide)).trans (qa123_h566 i hi)
            have qb123_h568 : ∀ i, 6 ≤ i → ri_at h568 123 i = ri_at h0 123 i := fun i hi => (cp_ri ch568 (by decide)).trans (qb123_h566 i hi)
            refine ex_al oq_X12_keepText_164 gL548_0 ?_
            refine ex_gf oq_X12_keepText_165 Th568 (k := 111) (d := 12) rfl rfl (fr_other Th568) ?_
            refine ex_bi oq_X12_keepText_168 (m := 64) (by decide) (fun x569 hx569 => ?_)
            refine ex_cs oq_X12_keepText_170 (by decide) (as := [cv_r 127, cv_i x569]) (stk := []) rfl rfl rfl ⟨rfl, rfl⟩ (R := fun o => ∃ hb : cv_H, o = (none, hb) ∧ cw_T _ hb ∧ cp_F 127 h568 hb ∧ (∀ i, i < 64 → ri_at hb 127 i = ri_at h568 127 (64 + i)) ∧ (∀ i, 64 ≤ i → ri_at hb 127 i = ri_at h568 127 i)) (sp_copies Th568 (R := 127) (d := 66) rfl rfl x569 64 (by omega) (by decide) (by decide) (by decide) (fun hb a1 a2 a3 a4 => ⟨hb, rfl, a1, a2, a3, a4⟩)) (fun o ho => ?_)
            obtain ⟨h570, rfl, Th570, ch570, kah570, kbh570⟩ := ho
            show cw_X _ _ _ _ _ [] h570
            have Fh570 : cw_Fr cw_Ds cw_sh mk_k1 h0 h570 := cw_Fr_tr Fh568 (cp_Fr ch570 (d := 66) rfl rfl (by decide +kernel))
            have eh570_14 : ri_at h570 111 14 = ri_at h568 111 14 := cp_ri ch570 (by decide)
            have eh570_16 : ri_at h570 111 16 = ri_at h568 111 16 := cp_ri ch570 (by decide)
            have eh570_18 : ri_at h570 111 18 = ri_at h568 111 18 := cp_ri ch570 (by decide)
            have eh570_12 : ri_at h570 111 12 = ri_at h568 111 12 := cp_ri ch570 (by decide)
            have eh570_13 : ri_at h570 111 13 = ri_at h568 111 13 := cp_ri ch570 (by decide)
            have eh570_15 : ri_at h570 111 15 = ri_at h568 111 15 := cp_ri ch570 (by decide)
            have eh570_17 : ri_at h570 111 17 = ri_at h568 111 17 := cp_ri ch570 (by decide)
            have eh570_19 : ri_at h570 111 19 = ri_at h568 111 19 := cp_ri ch570 (by decide)
            have eh570_t0 : ri_at h570 117 0 = ri_at h568 117 0 := cp_ri ch570 (by decide)
            have eh570_t1 : ri_at h570 117 1 = ri_at h568 117 1 := cp_ri ch570 (by decide)
            have eh570_t2 : ri_at h570 117 2 = ri_at h568 117 2 := cp_ri ch570 (by decide)
            have eh570_t3 : ri_at h570 117 3 = ri_at h568 117 3 := cp_ri ch570 (by decide)
            have eh570_t4 : ri_at h570 117 4 = ri_at h568 117 4 := cp_ri ch570 (by decide)
            have eh570_t5 : ri_at h570 117 5 = ri_at h568 117 5 := cp_ri ch570 (by decide)
            have eh570_t6 : ri_at h570 117 6 = ri_at h568 117 6 := cp_ri ch570 (by decide)
            have eh570_t7 : ri_at h570 117 7 = ri_at h568 117 7 := cp_ri ch570 (by decide)
            have qa125_h570 : ∀ i, i < 64 → ri_at h570 125 i = ri_at h0 125 (64 + i) := fun i hi => (cp_ri ch570 (by decide)).trans (qa125_h568 i hi)
            have qb125_h570 : ∀ i, 64 ≤ i → ri_at h570 125 i = ri_at h0 125 i := fun i hi => (cp_ri ch570 (by decide)).trans (qb125_h568 i hi)
            have qa126_h570 : ∀ i, i < 64 → ri_at h570 126 i = ri_at h0 126 (64 + i) := fun i hi => (cp_ri ch570 (by decide)).trans (qa126_h568 i hi)
            have qb126_h570 : ∀ i, 64 ≤ i → ri_at h570 126 i = ri_at h0 126 i := fun i hi => (cp_ri ch570 (by decide)).trans (qb126_h568 i hi)
            have qa127_h570 : ∀ i, i < 64 → ri_at h570 127 i = ri_at h0 127 (64 + i) := fun i hi => (kah570 i hi).trans (q127_h568 _)
            have qb127_h570 : ∀ i, 64 ≤ i → ri_at h570 127 i = ri_at h0 127 i := fun i hi => (kbh570 i hi).trans (q127_h568 _)
            have qa116_h570 : ∀ i, i < 4 → ri_at h570 116 i = ri_at h0 116 (4 + i) := fun i hi => (cp_ri ch570 (by decide)).trans (qa116_h568 i hi)
            have qb116_h570 : ∀ i, 4 ≤ i → ri_at h570 116 i = ri_at h0 116 i := fun i hi => (cp_ri ch570 (by decide)).trans (qb116_h568 i hi)
            have qa119_h570 : ∀ i, i < 64 → ri_at h570 119 i = ri_at h0 119 (64 + i) := fun i hi => (cp_ri ch570 (by decide)).trans (qa119_h568 i hi)
            have qb119_h570 : ∀ i, 64 ≤ i → ri_at h570 119 i = ri_at h0 119 i := fun i hi => (cp_ri ch570 (by decide)).trans (qb119_h568 i hi)
            have qa124_h570 : ∀ i, i < 18 → ri_at h570 124 i = ri_at h0 124 (18 + i) := fun i hi => (cp_ri ch570 (by decide)).trans (qa124_h568 i hi)
            have qb124_h570 : ∀ i, 18 ≤ i → ri_at h570 124 i = ri_at h0 124 i := fun i hi => (cp_ri ch570 (by decide)).trans (qb124_h568 i hi)
            have qa118_h570 : ∀ i, i < 4 → ri_at h570 118 i = ri_at h0 118 (4 + i) := fun i hi => (cp_ri ch570 (by decide)).trans (qa118_h568 i hi)
            have qb118_h570 : ∀ i, 4 ≤ i → ri_at h570 118 i = ri_at h0 118 i := fun i hi => (cp_ri ch570 (by decide)).trans (qb118_h568 i hi)
            have qa121_h570 : ∀ i, i < 6 → ri_at h570 121 i = ri_at h0 121 (6 + i) := fun i hi => (cp_ri ch570 (by decide)).trans (qa121_h568 i hi)
            have qb121_h570 : ∀ i, 6 ≤ i → ri_at h570 121 i = ri_at h0 121 i := fun i hi => (cp_ri ch570 (by decide)).trans (qb121_h568 i hi)
            have qa123_h570 : ∀ i, i < 6 → ri_at h570 123 i = ri_at h0 123 (6 + i) := fun i hi => (cp_ri ch570 (by decide)).trans (qa123_h568 i hi)
            have qb123_h570 : ∀ i, 6 ≤ i → ri_at h570 123 i = ri_at h0 123 i := fun i hi => (cp_ri ch570 (by decide)).trans (qb123_h568 i hi)
            have PP : cw_PP x501.toInt h570 := by
              refine ⟨pc_1 (m := mk_k1) (by decide +kernel) hP.1 Fh570, pc_2 (m := mk_k1) (by decide +kernel) hP.2.1 Fh570, kt_3 hP.2.2.1 qa125_h570 qb125_h570 qa126_h570 qb126_h570 qa127_h570 qb127_h570, kt_4 hI qa116_h570 ?_, kt_5 hI (by omega) qa119_h570, pc_6 (m := mk_k1) (by decide +kernel) hP.2.2.2.2.2.1 Fh570, kt_7 hI (by omega) qa124_h570⟩
              intro i hi
              match i, hi with
              | 0, _ => show ri_at h570 117 0 = ri_at h0 117 4; omega
              | 1, _ => show ri_at h570 117 1 = ri_at h0 117 5; omega
              | 2, _ => show ri_at h570 117 2 = ri_at h0 117 6; omega
              | 3, _ => show ri_at h570 117 3 = ri_at h0 117 7; omega
            exact kq_173 hX Th570 PP (fun h' a1 a2 a3 a4 => hQ x501.toInt h' a1 a2 (cw_Fr_tr (cw_Fr_mono (by decide +kernel) Fh570) (cw_Fr_mono (by decide +kernel) a3)) a4 ⟨(ri_frf a3 (k := 111) (d := 12) rfl rfl (by decide +kernel)).trans (by omega), (ri_frf a3 (k := 111) (d := 12) rfl rfl (by decide +kernel)).trans (by omega), (ri_frf a3 (k := 111) (d := 12) rfl rfl (by decide +kernel)).trans (by omega), (ri_frf a3 (k := 111) (d := 12) rfl rfl (by decide +kernel)).trans (by omega), fun i hi => (ri_frr a3 (k := 118) (d := 57) rfl rfl (by decide +kernel)).trans (qa118_h570 i hi), fun i hi => (ri_frr a3 (k := 121) (d := 60) rfl rfl (by decide +kernel)).trans (qa121_h570 i hi), fun i hi => (ri_frr a3 (k := 123) (d := 62) rfl rfl (by decide +kernel)).trans (qa123_h570 i hi)⟩) L548 gL548_0
          · exfalso; omega
end SPZQ
