section
/-! ===== text: the class ===== -/
theorem tz_sk5 {t : Nat → Int} {n a : Nat} (h : (tz_s t n a).1 = 5) : 0 ≤ (tz_s t n a).2.1 ∧ (tz_s t n a).2.1 ≤ 5 := by
  revert h
  unfold tz_s
  (repeat' split) <;> intro h <;> first | (exfalso; simp at h; done) | (refine ⟨?_, ?_⟩ <;> dsimp only <;> omega)
theorem zk5 {t : Nat → Int} {n p : Nat} (h : zk t n p = 5) : 0 ≤ zw t n p ∧ zw t n p ≤ 5 := by
  unfold zk zw tz_T at *
  revert h
  unfold tz_tk
  (repeat' split) <;> intro h <;> first | exact tz_sk5 h | (exfalso; simp at h; done)
theorem sh_4 {k : Nat} (h : cw_sh[k]? = some 4) : k = 2 ∨ k = 26 := by
  have hlt := (List.getElem?_eq_some_iff.mp h).1
  have c : (List.range cw_sh.length).all (fun j => !(cw_sh[j]? == some 4) || (j == 2 || j == 26)) = true := by decide +kernel
  have := List.all_eq_true.mp c k (List.mem_range.mpr hlt)
  rw [h] at this
  simpa using this
section TZ
variable {G : Int} {X : cv_X} {Q : cv_O → Prop} {t : Nat → Int}
end TZ
end
section
/-! ===== keepText: what the reference keeps of a text ===== -/
section SPZQ
variable {G : Int} {X : cv_X} {Q : cv_O → Prop}
/-- counts and names as they were read -/
def zKq (h h' : cv_H) : Prop := ri_at h' 111 12 = ri_at h 111 16 ∧ ri_at h' 111 13 = ri_at h 111 17 ∧ ri_at h' 111 14 = ri_at h 111 18 ∧ ri_at h' 111 15 = ri_at h 111 19 ∧ (∀ i, i < 4 → ri_at h' 118 i = ri_at h 118 (4 + i)) ∧ (∀ i, i < 6 → ri_at h' 121 i = ri_at h 121 (6 + i)) ∧ (∀ i, i < 6 → ri_at h' 123 i = ri_at h 123 (6 + i))
set_option maxHeartbeats 4000000 in
theorem kq_173 {h : cv_H} (hX : cw_Xok X) (hT : cw_T G h) (hP : cw_PP G h) (hQ : ∀ h', cw_T G h' → cw_PP G h' → cw_Fr cw_Ds cw_sh mk_k2 h h' → (ri_at h' 111 43 = 0 ∧ ri_at h' 111 66 = 0 ∧ ri_at h' 111 52 = 0 ∧ ri_at h' 111 53 = -1 ∧ ri_at h' 111 50 = 0) → Q (none, h')) (L : cv_L) (q0 : cv_get L 0 = some (cv_r 111)) : cw_X X 173 Q 173 L [] h := by
  have Fh : cw_Fr cw_Ds cw_sh mk_k2 h h := cw_Fr_refl
  refine ex_ic oq_X12_keepText_173 (m := 0) (by decide) (fun x1 hx1 => ?_)
  refine ex_isA oq_X12_keepText_174 (fun L2 gL2_1 kL2 => ?_)
  have gL2_0 : cv_get L2 0 = some (cv_r 111) := kL2 0 _ (by decide) (fun _ => rfl) q0
  refine ex_il oq_X12_keepText_175 gL2_1 ?_
  refine ex_ic oq_X12_keepText_176 (m := 4) (by decide) (fun x3 hx3 => ?_)
  refine ex_if oq_X12_keepText_177 (t := 207) rfl rfl (fun (c4 : x3.toInt ≤ x1.toInt) => ?_) (fun (c4 : ¬ (x3.toInt ≤ x1.toInt)) => ?_)
  · exfalso; omega
  · refine ex_al oq_X12_keepText_180 gL2_0 ?_
    refine ex_il oq_X12_keepText_181 gL2_1 ?_
    have Ph : cw_PP G h := pp_fr0 (by decide +kernel) hP Fh
    refine ex_cv oq_X12_keepText_182 (by decide) hT (k := 111) (d := 12) (as := [cv_i x1]) (stk := []) rfl rfl rfl rfl rfl rfl ⟨rfl, rfl⟩ (cw_HX hz_X12_begins rfl (cw_Xok_no2 hX) ⟨hT, Ph⟩ ⟨.inl ⟨by decide, 111, rfl, rfl⟩, ⟨_, rfl, by show (0 : Int) ≤ _; omega, by show _ ≤ (3 : Int); omega, cw_tg0⟩, trivial⟩ (fun t ht => absurd ht List.not_mem_nil)) (fun ox6 hox6 => ?_)
    obtain ⟨h5, rfl, Th5, Ph5, Ch5⟩ := po_non hox6 rfl
    show cw_X _ _ _ _ _ [] h5
    have Fh5 : cw_Fr cw_Ds cw_sh mk_k2 h h5 := cw_Fr_tr Fh (cw_Fr_mono (by decide +kernel) Ch5)
    have eh5_43 : ri_at h5 111 43 = ri_at h 111 43 := ri_frf Ch5 (d := 12) rfl rfl (by decide +kernel)
    have eh5_66 : ri_at h5 111 66 = ri_at h 111 66 := ri_frf Ch5 (d := 12) rfl rfl (by decide +kernel)
    have eh5_52 : ri_at h5 111 52 = ri_at h 111 52 := ri_frf Ch5 (d := 12) rfl rfl (by decide +kernel)
    have eh5_53 : ri_at h5 111 53 = ri_at h 111 53 := ri_frf Ch5 (d := 12) rfl rfl (by decide +kernel)
    have eh5_50 : ri_at h5 111 50 = ri_at h 111 50 := ri_frf Ch5 (d := 12) rfl rfl (by decide +kernel)
    refine ex_al oq_X12_keepText_185 gL2_0 ?_
    refine ex_gf oq_X12_keepText_186 Th5 (k := 111) (d := 12) rfl rfl (fr_state Th5) ?_
    refine ex_bi oq_X12_keepText_189 (m := 16) (by decide) (fun x7 hx7 => ?_)
    refine ex_il oq_X12_keepText_191 gL2_1 ?_
    refine ex_mul oq_X12_keepText_192 (m := 16 * x1.toInt) (by rw [hx7]) (by omega) (fun x8 hx8 => ?_)
    refine ex_al oq_X12_keepText_193 gL2_0 ?_
    refine ex_gf oq_X12_keepText_194 Th5 (k := 111) (d := 12) rfl rfl (fr_now Th5) ?_
    refine ex_ic oq_X12_keepText_197 (m := 0) (by decide) (fun x9 hx9 => ?_)
    have Ph5 : cw_PP G h5 := pp_fr0 (by decide +kernel) hP Fh5
    refine ex_cs oq_X12_keepText_198 (by decide) (as := [cv_r 130, cv_i x8, cv_r 131, cv_i x9]) (stk := []) rfl rfl rfl ⟨rfl, rfl⟩ (cw_HX hz_X12_lays_1 rfl (cw_Xok_no2 hX) ⟨Th5, Ph5⟩ ⟨.inl ⟨by decide, 130, rfl, rfl⟩, ⟨_, rfl, by show (0 : Int) ≤ _; omega, by show _ ≤ (48 : Int); omega, cw_tg0⟩, .inl ⟨by decide, 131, rfl, rfl⟩, ⟨_, rfl, by show (0 : Int) ≤ _; omega, by show _ ≤ (0 : Int); omega, cw_tg0⟩, trivial⟩ (fun t ht => absurd ht List.not_mem_nil)) (fun ox11 hox11 => ?_)
    obtain ⟨h10, rfl, Th10, Ph10, Ch10⟩ := po_non hox11 rfl
    show cw_X _ _ _ _ _ [] h10
    have Fh10 : cw_Fr cw_Ds cw_sh mk_k2 h h10 := cw_Fr_tr Fh5 (cw_Fr_mono (by decide +kernel) Ch10)
    have eh10_43 : ri_at h10 111 43 = ri_at h5 111 43 := ri_frf Ch10 (d := 12) rfl rfl (by decide +kernel)
    have eh10_66 : ri_at h10 111 66 = ri_at h5 111 66 := ri_frf Ch10 (d := 12) rfl rfl (by decide +kernel)
    have eh10_52 : ri_at h10 111 52 = ri_at h5 111 52 := ri_frf Ch10 (d := 12) rfl rfl (by decide +kernel)
    have eh10_53 : ri_at h10 111 53 = ri_at h5 111 53 := ri_frf Ch10 (d := 12) rfl rfl (by decide +kernel)
    have eh10_50 : ri_at h10 111 50 = ri_at h5 111 50 := ri_frf Ch10 (d := 12) rfl rfl (by decide +kernel)
    refine ex_incA oq_X12_keepText_201 (v := x1) (m := 1) gL2_1 (by decide) (by omega) (fun L13 x12 hx12 gL13_1 kL13 => ?_)
    have gL13_0 : cv_get L13 0 = some (cv_r 111) := kL13 0 _ (by decide) (fun _ => rfl) gL2_0
    refine ex_go oq_X12_keepText_204 (t := 175) rfl rfl ?_
    refine ex_il oq_X12_keepText_175 gL13_1 ?_
    refine ex_ic oq_X12_keepText_176 (m := 4) (by decide) (fun x14 hx14 => ?_)
    refine ex_if oq_X12_keepText_177 (t := 207) rfl rfl (fun (c15 : x14.toInt ≤ x12.toInt) => ?_) (fun (c15 : ¬ (x14.toInt ≤ x12.toInt)) => ?_)
    · exfalso; omega
    · refine ex_al oq_X12_keepText_180 gL13_0 ?_
      refine ex_il oq_X12_keepText_181 gL13_1 ?_
      have Ph10 : cw_PP G h10 := pp_fr0 (by decide +kernel) hP Fh10
      refine ex_cv oq_X12_keepText_182 (by decide) Th10 (k := 111) (d := 12) (as := [cv_i x12]) (stk := []) rfl rfl rfl rfl rfl rfl ⟨rfl, rfl⟩ (cw_HX hz_X12_begins rfl (cw_Xok_no2 hX) ⟨Th10, Ph10⟩ ⟨.inl ⟨by decide, 111, rfl, rfl⟩, ⟨_, rfl, by show (0 : Int) ≤ _; omega, by show _ ≤ (3 : Int); omega, cw_tg0⟩, trivial⟩ (fun t ht => absurd ht List.not_mem_nil)) (fun ox17 hox17 => ?_)
      obtain ⟨h16, rfl, Th16, Ph16, Ch16⟩ := po_non hox17 rfl
      show cw_X _ _ _ _ _ [] h16
      have Fh16 : cw_Fr cw_Ds cw_sh mk_k2 h h16 := cw_Fr_tr Fh10 (cw_Fr_mono (by decide +kernel) Ch16)
      have eh16_43 : ri_at h16 111 43 = ri_at h10 111 43 := ri_frf Ch16 (d := 12) rfl rfl (by decide +kernel)
      have eh16_66 : ri_at h16 111 66 = ri_at h10 111 66 := ri_frf Ch16 (d := 12) rfl rfl (by decide +kernel)
      have eh16_52 : ri_at h16 111 52 = ri_at h10 111 52 := ri_frf Ch16 (d := 12) rfl rfl (by decide +kernel)
      have eh16_53 : ri_at h16 111 53 = ri_at h10 111 53 := ri_frf Ch16 (d := 12) rfl rfl (by decide +kernel)
      have eh16_50 : ri_at h16 111 50 = ri_at h10 111 50 := ri_frf Ch16 (d := 12) rfl rfl (by decide +kernel)
      refine ex_al oq_X12_keepText_185 gL13_0 ?_
      refine ex_gf oq_X12_keepText_186 Th16 (k := 111) (d := 12) rfl rfl (fr_state Th16) ?_
      refine ex_bi oq_X12_keepText_189 (m := 16) (by decide) (fun x18 hx18 => ?_)
      refine ex_il oq_X12_keepText_191 gL13_1 ?_
      refine ex_mul oq_X12_keepText_192 (m := 16 * x12.toInt) (by rw [hx18]) (by omega) (fun x19 hx19 => ?_)
      refine ex_al oq_X12_keepText_193 gL13_0 ?_
      refine ex_gf oq_X12_keepText_194 Th16 (k := 111) (d := 12) rfl rfl (fr_now Th16) ?_
      refine ex_ic oq_X12_keepText_197 (m := 0) (by decide) (fun x20 hx20 => ?_)
      have Ph16 : cw_PP G h16 := pp_fr0 (by decide +kernel) hP Fh16
      refine ex_cs oq_X12_keepText_198 (by decide) (as := [cv_r 130, cv_i x19, cv_r 131, cv_i x20]) (stk := []) rfl rfl rfl ⟨rfl, rfl⟩ (cw_HX hz_X12_lays_1 rfl (cw_Xok_no2 hX) ⟨Th16, Ph16⟩ ⟨.inl ⟨by decide, 130, rfl, rfl⟩, ⟨_, rfl, by show (0 : Int) ≤ _; omega, by show _ ≤ (48 : Int); omega, cw_tg0⟩, .inl ⟨by decide, 131, rfl, rfl⟩, ⟨_, rfl, by show (0 : Int) ≤ _; omega, by show _ ≤ (0 : Int); omega, cw_tg0⟩, trivial⟩ (fun t ht => absurd ht List.not_mem_nil)) (fun ox22 hox22 => ?_)
      obtain ⟨h21, rfl, Th21, Ph21, Ch21⟩ := po_non hox22 rfl
      show cw_X _ _ _ _ _ [] h21
      have Fh21 : cw_Fr cw_Ds cw_sh mk_k2 h h21 := cw_Fr_tr Fh16 (cw_Fr_mono (by decide +kernel) Ch21)
      have eh21_43 : ri_at h21 111 43 = ri_at h16 111 43 := ri_frf Ch21 (d := 12) rfl rfl (by decide +kernel)
      have eh21_66 : ri_at h21 111 66 = ri_at h16 111 66 := ri_frf Ch21 (d := 12) rfl rfl (by decide +kernel)
      have eh21_52 : ri_at h21 111 52 = ri_at h16 111 52 := ri_frf Ch21 (d := 12) rfl rfl (by decide +kernel)
      have eh21_53 : ri_at h21 111 53 = ri_at h16 111 53 := ri_frf Ch21 (d := 12) rfl rfl (by decide +kernel)
      have eh21_50 : ri_at h21 111 50 = ri_at h16 111 50 := ri_frf Ch21 (d := 12) rfl rfl (by decide +kernel)
      refine ex_incA oq_X12_keepText_201 (v := x12) (m := 1) gL13_1 (by decide) (by omega) (fun L24 x23 hx23 gL24_1 kL24 => ?_)
      have gL24_0 : cv_get L24 0 = some (cv_r 111) := kL24 0 _ (by decide) (fun _ => rfl) gL13_0
      refine ex_go oq_X12_keepText_204 (t := 175) rfl rfl ?_
      refine ex_il oq_X12_keepText_175 gL24_1 ?_
      refine ex_ic oq_X12_keepText_176 (m := 4) (by decide) (fun x25 hx25 => ?_)
      refine ex_if oq_X12_keepText_177 (t := 207) rfl rfl (fun (c26 : x25.toInt ≤ x23.toInt) => ?_) (fun (c26 : ¬ (x25.toInt ≤ x23.toInt)) => ?_)
      · exfalso; omega
      · refine ex_al oq_X12_keepText_180 gL24_0 ?_
        refine ex_il oq_X12_keepText_181 gL24_1 ?_
        have Ph21 : cw_PP G h21 := pp_fr0 (by decide +kernel) hP Fh21
        refine ex_cv oq_X12_keepText_182 (by decide) Th21 (k := 111) (d := 12) (as := [cv_i x23]) (stk := []) rfl rfl rfl rfl rfl rfl ⟨rfl, rfl⟩ (cw_HX hz_X12_begins rfl (cw_Xok_no2 hX) ⟨Th21, Ph21⟩ ⟨.inl ⟨by decide, 111, rfl, rfl⟩, ⟨_, rfl, by show (0 : Int) ≤ _; omega, by show _ ≤ (3 : Int); omega, cw_tg0⟩, trivial⟩ (fun t ht => absurd ht List.not_mem_nil)) (fun ox28 hox28 => ?_)
        obtain ⟨h27, rfl, Th27, Ph27, Ch27⟩ := po_non hox28 rfl
        show cw_X _ _ _ _ _ [] h27
        have Fh27 : cw_Fr cw_Ds cw_sh mk_k2 h h27 := cw_Fr_tr Fh21 (cw_Fr_mono (by decide +kernel) Ch27)
        have eh27_43 : ri_at h27 111 43 = ri_at h21 111 43 := ri_frf Ch27 (d := 12) rfl rfl (by decide +kernel)
        have eh27_66 : ri_at h27 111 66 = ri_at h21 111 66 := ri_frf Ch27 (d := 12) rfl rfl (by decide +kernel)
        have eh27_52 : ri_at h27 111 52 = ri_at h21 111 52 := ri_frf Ch27 (d := 12) rfl rfl (by decide +kernel)
        have eh27_53 : ri_at h27 111 53 = ri_at h21 111 53 := ri_frf Ch27 (d := 12) rfl rfl (by decide +kernel)
        have eh27_50 : ri_at h27 111 50 = ri_at h21 111 50 := ri_frf Ch27 (d := 12) rfl rfl (by decide +kernel)
        refine ex_al oq_X12_keepText_185 gL24_0 ?_
        refine ex_gf oq_X12_keepText_186 Th27 (k := 111) (d := 12) rfl rfl (fr_state Th27) ?_
        refine ex_bi oq_X12_keepText_189 (m := 16) (by decide) (fun x29 hx29 => ?_)
        refine ex_il oq_X12_keepText_191 gL24_1 ?_
        refine ex_mul oq_X12_keepText_192 (m := 16 * x23.toInt) (by rw [hx29]) (by omega) (fun x30 hx30 => ?_)
        refine ex_al oq_X12_keepText_193 gL24_0 ?_
        refine ex_gf oq_X12_keepText_194 Th27 (k := 111) (d := 12) rfl rfl (fr_now Th27) ?_
        refine ex_ic oq_X12_keepText_197 (m := 0) (by decide) (fun x31 hx31 => ?_)
        have Ph27 : cw_PP G h27 := pp_fr0 (by decide +kernel) hP Fh27
        refine ex_cs oq_X12_keepText_198 (by decide) (as := [cv_r 130, cv_i x30, cv_r 131, cv_i x31]) (stk := []) rfl rfl rfl ⟨rfl, rfl⟩ (cw_HX hz_X12_lays_1 rfl (cw_Xok_no2 hX) ⟨Th27, Ph27⟩ ⟨.inl ⟨by decide, 130, rfl, rfl⟩, ⟨_, rfl, by show (0 : Int) ≤ _; omega, by show _ ≤ (48 : Int); omega, cw_tg0⟩, .inl ⟨by decide, 131, rfl, rfl⟩, ⟨_, rfl, by show (0 : Int) ≤ _; omega, by show _ ≤ (0 : Int); omega, cw_tg0⟩, trivial⟩ (fun t ht => absurd ht List.not_mem_nil)) (fun ox33 hox33 => ?_)
        obtain ⟨h32, rfl, Th32, Ph32, Ch32⟩ := po_non hox33 rfl
        show cw_X _ _ _ _ _ [] h32
        have Fh32 : cw_Fr cw_Ds cw_sh mk_k2 h h32 := cw_Fr_tr Fh27 (cw_Fr_mono (by decide +kernel) Ch32)
        have eh32_43 : ri_at h32 111 43 = ri_at h27 111 43 := ri_frf Ch32 (d := 12) rfl rfl (by decide +kernel)
        have eh32_66 : ri_at h32 111 66 = ri_at h27 111 66 := ri_frf Ch32 (d := 12) rfl rfl (by decide +kernel)
        have eh32_52 : ri_at h32 111 52 = ri_at h27 111 52 := ri_frf Ch32 (d := 12) rfl rfl (by decide +kernel)
        have eh32_53 : ri_at h32 111 53 = ri_at h27 111 53 := ri_frf Ch32 (d := 12) rfl rfl (by decide +kernel)
        have eh32_50 : ri_at h32 111 50 = ri_at h27 111 50 := ri_frf Ch32 (d := 12) rfl rfl (by decide +kernel)
        refine ex_incA oq_X12_keepText_201 (v := x23) (m := 1) gL24_1 (by decide) (by omega) (fun L35 x34 hx34 gL35_1 kL35 => ?_)
        have gL35_0 : cv_get L35 0 = some (cv_r 111) := kL35 0 _ (by decide) (fun _ => rfl) gL24_0
        refine ex_go oq_X12_keepText_204 (t := 175) rfl rfl ?_
        refine ex_il oq_X12_keepText_175 gL35_1 ?_
        refine ex_ic oq_X12_keepText_176 (m := 4) (by decide) (fun x36 hx36 => ?_)
        refine ex_if oq_X12_keepText_177 (t := 207) rfl rfl (fun (c37 : x36.toInt ≤ x34.toInt) => ?_) (fun (c37 : ¬ (x36.toInt ≤ x34.toInt)) => ?_)
        · exfalso; omega
        · refine ex_al oq_X12_keepText_180 gL35_0 ?_
          refine ex_il oq_X12_keepText_181 gL35_1 ?_
          have Ph32 : cw_PP G h32 := pp_fr0 (by decide +kernel) hP Fh32
          refine ex_cv oq_X12_keepText_182 (by decide) Th32 (k := 111) (d := 12) (as := [cv_i x34]) (stk := []) rfl rfl rfl rfl rfl rfl ⟨rfl, rfl⟩ (cw_HX hz_X12_begins rfl (cw_Xok_no2 hX) ⟨Th32, Ph32⟩ ⟨.inl ⟨by decide, 111, rfl, rfl⟩, ⟨_, rfl, by show (0 : Int) ≤ _; omega, by show _ ≤ (3 : Int); omega, cw_tg0⟩, trivial⟩ (fun t ht => absurd ht List.not_mem_nil)) (fun ox39 hox39 => ?_)
          obtain ⟨h38, rfl, Th38, Ph38, Ch38⟩ := po_non hox39 rfl
          show cw_X _ _ _ _ _ [] h38
          have Fh38 : cw_Fr cw_Ds cw_sh mk_k2 h h38 := cw_Fr_tr Fh32 (cw_Fr_mono (by decide +kernel) Ch38)
          have eh38_43 : ri_at h38 111 43 = ri_at h32 111 43 := ri_frf Ch38 (d := 12) rfl rfl (by decide +kernel)
          have eh38_66 : ri_at h38 111 66 = ri_at h32 111 66 := ri_frf Ch38 (d := 12) rfl rfl (by decide +kernel)
          have eh38_52 : ri_at h38 111 52 = ri_at h32 111 52 := ri_frf Ch38 (d := 12) rfl rfl (by decide +kernel)
          have eh38_53 : ri_at h38 111 53 = ri_at h32 111 53 := ri_frf Ch38 (d := 12) rfl rfl (by decide +kernel)
          have eh38_50 : ri_at h38 111 50 = ri_at h32 111 50 := ri_frf Ch38 (d := 12) rfl rfl (by decide +kernel)
          refine ex_al oq_X12_keepText_185 gL35_0 ?_
          refine ex_gf oq_X12_keepText_186 Th38 (k := 111) (d := 12) rfl rfl (fr_state Th38) ?_
          refine ex_bi oq_X12_keepText_189 (m := 16) (by decide) (fun x40 hx40 => ?_)
          refine ex_il oq_X12_keepText_191 gL35_1 ?_
          refine ex_mul oq_X12_keepText_192 (m := 16 * x34.toInt) (by rw [hx40]) (by omega) (fun x41 hx41 => ?_)
          refine ex_al oq_X12_keepText_193 gL35_0 ?_
          refine ex_gf oq_X12_keepText_194 Th38 (k := 111) (d := 12) rfl rfl (fr_now Th38) ?_
          refine ex_ic oq_X12_keepText_197 (m := 0) (by decide) (fun x42 hx42 => ?_)
          have Ph38 : cw_PP G h38 := pp_fr0 (by decide +kernel) hP Fh38
          refine ex_cs oq_X12_keepText_198 (by decide) (as := [cv_r 130, cv_i x41, cv_r 131, cv_i x42]) (stk := []) rfl rfl rfl ⟨rfl, rfl⟩ (cw_HX hz_X12_lays_1 rfl (cw_Xok_no2 hX) ⟨Th38, Ph38⟩ ⟨.inl ⟨by decide, 130, rfl, rfl⟩, ⟨_, rfl, by show (0 : Int) ≤ _; omega, by show _ ≤ (48 : Int); omega, cw_tg0⟩, .inl ⟨by decide, 131, rfl, rfl⟩, ⟨_, rfl, by show (0 : Int) ≤ _; omega, by show _ ≤ (0 : Int); omega, cw_tg0⟩, trivial⟩ (fun t ht => absurd ht List.not_mem_nil)) (fun ox44 hox44 => ?_)
          obtain ⟨h43, rfl, Th43, Ph43, Ch43⟩ := po_non hox44 rfl
          show cw_X _ _ _ _ _ [] h43
          have Fh43 : cw_Fr cw_Ds cw_sh mk_k2 h h43 := cw_Fr_tr Fh38 (cw_Fr_mono (by decide +kernel) Ch43)
          have eh43_43 : ri_at h43 111 43 = ri_at h38 111 43 := ri_frf Ch43 (d := 12) rfl rfl (by decide +kernel)
          have eh43_66 : ri_at h43 111 66 = ri_at h38 111 66 := ri_frf Ch43 (d := 12) rfl rfl (by decide +kernel)
          have eh43_52 : ri_at h43 111 52 = ri_at h38 111 52 := ri_frf Ch43 (d := 12) rfl rfl (by decide +kernel)
          have eh43_53 : ri_at h43 111 53 = ri_at h38 111 53 := ri_frf Ch43 (d := 12) rfl rfl (by decide +kernel)
          have eh43_50 : ri_at h43 111 50 = ri_at h38 111 50 := ri_frf Ch43 (d := 12) rfl rfl (by decide +kernel)
          refine ex_incA oq_X12_keepText_201 (v := x34) (m := 1) gL35_1 (by decide) (by omega) (fun L46 x45 hx45 gL46_1 kL46 => ?_)
          have gL46_0 : cv_get L46 0 = some (cv_r 111) := kL46 0 _ (by decide) (fun _ => rfl) gL35_0
          refine ex_go oq_X12_keepText_204 (t := 175) rfl rfl ?_
          refine ex_il oq_X12_keepText_175 gL46_1 ?_
          refine ex_ic oq_X12_keepText_176 (m := 4) (by decide) (fun x47 hx47 => ?_)
          refine ex_if oq_X12_keepText_177 (t := 207) rfl rfl (fun (c48 : x47.toInt ≤ x45.toInt) => ?_) (fun (c48 : ¬ (x47.toInt ≤ x45.toInt)) => ?_)
          · refine ex_al oq_X12_keepText_207 gL46_0 ?_
            refine ex_ic oq_X12_keepText_208 (m := 0) (by decide) (fun x49 hx49 => ?_)
            refine ex_pfi oq_X12_keepText_209 Th43 (k := 111) (d := 12) rfl rfl rfl (by omega) (by omega) (fun h50 Th50 wh50 => ?_)
            have Fh50 : cw_Fr cw_Ds cw_sh mk_k2 h h50 := cw_Fr_tr Fh43 (cw_Fr_wrf wh50 (k := 111) (d := 12) rfl rfl (by decide +kernel))
            have eh50_43 : ri_at h50 111 43 = x49.toInt := ri_self wh50
            have eh50_66 : ri_at h50 111 66 = ri_at h43 111 66 := ri_ne wh50 (by decide)
            have eh50_52 : ri_at h50 111 52 = ri_at h43 111 52 := ri_ne wh50 (by decide)
            have eh50_53 : ri_at h50 111 53 = ri_at h43 111 53 := ri_ne wh50 (by decide)
            have eh50_50 : ri_at h50 111 50 = ri_at h43 111 50 := ri_ne wh50 (by decide)
            refine ex_al oq_X12_keepText_212 gL46_0 ?_
            refine ex_ic oq_X12_keepText_213 (m := 0) (by decide) (fun x51 hx51 => ?_)
            refine ex_pfi oq_X12_keepText_214 Th50 (k := 111) (d := 12) rfl rfl rfl (by omega) (by omega) (fun h52 Th52 wh52 => ?_)
            have Fh52 : cw_Fr cw_Ds cw_sh mk_k2 h h52 := cw_Fr_tr Fh50 (cw_Fr_wrf wh52 (k := 111) (d := 12) rfl rfl (by decide +kernel))
            have eh52_43 : ri_at h52 111 43 = ri_at h50 111 43 := ri_ne wh52 (by decide)
            have eh52_66 : ri_at h52 111 66 = ri_at h50 111 66 := ri_ne wh52 (by decide)
            have eh52_52 : ri_at h52 111 52 = x51.toInt := ri_self wh52
            have eh52_53 : ri_at h52 111 53 = ri_at h50 111 53 := ri_ne wh52 (by decide)
            have eh52_50 : ri_at h52 111 50 = ri_at h50 111 50 := ri_ne wh52 (by decide)
            refine ex_al oq_X12_keepText_217 gL46_0 ?_
            refine ex_ic oq_X12_keepText_218 (m := (-1)) (by decide) (fun x53 hx53 => ?_)
            refine ex_pfi oq_X12_keepText_219 Th52 (k := 111) (d := 12) rfl rfl rfl (by omega) (by omega) (fun h54 Th54 wh54 => ?_)
            have Fh54 : cw_Fr cw_Ds cw_sh mk_k2 h h54 := cw_Fr_tr Fh52 (cw_Fr_wrf wh54 (k := 111) (d := 12) rfl rfl (by decide +kernel))
            have eh54_43 : ri_at h54 111 43 = ri_at h52 111 43 := ri_ne wh54 (by decide)
            have eh54_66 : ri_at h54 111 66 = ri_at h52 111 66 := ri_ne wh54 (by decide)
            have eh54_52 : ri_at h54 111 52 = ri_at h52 111 52 := ri_ne wh54 (by decide)
            have eh54_53 : ri_at h54 111 53 = x53.toInt := ri_self wh54
            have eh54_50 : ri_at h54 111 50 = ri_at h52 111 50 := ri_ne wh54 (by decide)
            refine ex_al oq_X12_keepText_222 gL46_0 ?_
            refine ex_ic oq_X12_keepText_223 (m := 0) (by decide) (fun x55 hx55 => ?_)
            refine ex_pfi oq_X12_keepText_224 Th54 (k := 111) (d := 12) rfl rfl rfl (by omega) (by omega) (fun h56 Th56 wh56 => ?_)
            have Fh56 : cw_Fr cw_Ds cw_sh mk_k2 h h56 := cw_Fr_tr Fh54 (cw_Fr_wrf wh56 (k := 111) (d := 12) rfl rfl (by decide +kernel))
            have eh56_43 : ri_at h56 111 43 = ri_at h54 111 43 := ri_ne wh56 (by decide)
            have eh56_66 : ri_at h56 111 66 = ri_at h54 111 66 := ri_ne wh56 (by decide)
            have eh56_52 : ri_at h56 111 52 = ri_at h54 111 52 := ri_ne wh56 (by decide)
            have eh56_53 : ri_at h56 111 53 = ri_at h54 111 53 := ri_ne wh56 (by decide)
            have eh56_50 : ri_at h56 111 50 = x55.toInt := ri_self wh56
            refine ex_al oq_X12_keepText_227 gL46_0 ?_
            refine ex_ic oq_X12_keepText_228 (m := 0) (by decide) (fun x57 hx57 => ?_)
            refine ex_pfb oq_X12_keepText_229 Th56 (k := 111) (d := 12) rfl rfl rfl (by omega) (by omega) (fun h58 Th58 wh58 => ?_)
            have Fh58 : cw_Fr cw_Ds cw_sh mk_k2 h h58 := cw_Fr_tr Fh56 (cw_Fr_wrf wh58 (k := 111) (d := 12) rfl rfl (by decide +kernel))
            have eh58_43 : ri_at h58 111 43 = ri_at h56 111 43 := ri_ne wh58 (by decide)
            have eh58_66 : ri_at h58 111 66 = x57.toInt := ri_self wh58
            have eh58_52 : ri_at h58 111 52 = ri_at h56 111 52 := ri_ne wh58 (by decide)
            have eh58_53 : ri_at h58 111 53 = ri_at h56 111 53 := ri_ne wh58 (by decide)
            have eh58_50 : ri_at h58 111 50 = ri_at h56 111 50 := ri_ne wh58 (by decide)
            exact ex_retv oq_X12_keepText_232 rfl (hQ h58 Th58 (pp_fr0 (by decide +kernel) hP Fh58) Fh58 ⟨by omega, by omega, by omega, by omega, by omega⟩)
          · exfalso; omega
end SPZQ
end
section
/-! ===== text of the reference: what is kept ===== -/
def zKs (s : zSg) (h : cv_H) : Prop := (ri_at h 111 15 = s.2.2.1 ∧ (ri_at h 111 12 = s.2.2.2.1.length ∧ zNm h 118 0 s.2.2.2.1) ∧ (ri_at h 111 13 = s.2.2.2.2.1.length ∧ zNm h 121 0 s.2.2.2.2.1) ∧ (ri_at h 111 14 = s.2.2.2.2.2.length ∧ zNm h 123 0 s.2.2.2.2.2)) ∧ ri_at h 111 43 = 0 ∧ ri_at h 111 66 = 0 ∧ ri_at h 111 52 = 0 ∧ ri_at h 111 53 = -1 ∧ ri_at h 111 50 = 0
theorem zKs_k {s : zSg} {h h' : cv_H} (hs : zSR h s) (hg : s.2.2.2.1.length ≤ 4) (hw : s.2.2.2.2.1.length ≤ 6) (hc : s.2.2.2.2.2.length ≤ 6) (a : ri_at h' 111 43 = 0 ∧ ri_at h' 111 66 = 0 ∧ ri_at h' 111 52 = 0 ∧ ri_at h' 111 53 = -1 ∧ ri_at h' 111 50 = 0) (k : zKq h h') : zKs s h' := by
  obtain ⟨s1, s2, s3, s4, s5, s6, s7, s8, s9, s10⟩ := hs
  obtain ⟨k1, k2, k3, k4, k5, k6, k7⟩ := k
  refine ⟨⟨k4.trans s3, ⟨k1.trans s5, fun i hi => ?_⟩, ⟨k2.trans s6, fun i hi => ?_⟩, ⟨k3.trans s7, fun i hi => ?_⟩⟩, a⟩
  · rw [Nat.zero_add, k5 i (by omega)]; exact s8 i hi
  · rw [Nat.zero_add, k6 i (by omega)]; exact s9 i hi
  · rw [Nat.zero_add, k7 i (by omega)]; exact s10 i hi
section TZ
variable {G : Int} {X : cv_X} {Q : cv_O → Prop} {t : Nat → Int}
end TZ
end
section
/-! ===== weeks, keep, back, and what a text leaves of them: the class ===== -/
section TZ
variable {G : Int} {X : cv_X} {Q : cv_O → Prop} {t : Nat → Int}
theorem oq_X3_clear_0 : cw_ho 41 0 (.aload_n 0) 1 0 0 0 := rfl
theorem oq_X3_clear_1 : cw_ho 41 1 (.iconst 0) 1 0 0 0 := rfl
theorem oq_X3_clear_2 : cw_ho 41 2 (.putfield 41) 3 3 9 0 := rfl
theorem oq_X3_clear_5 : cw_ho 41 5 (.aload_n 0) 1 0 0 0 := rfl
theorem oq_X3_clear_6 : cw_ho 41 6 (.iconst (-1)) 1 0 0 0 := rfl
theorem oq_X3_clear_7 : cw_ho 41 7 (.putfield 37) 3 3 10 0 := rfl
theorem oq_X3_clear_10 : cw_ho 41 10 (.return_) 1 0 0 0 := rfl
theorem oq_X10_clear_0 : cw_ho 101 0 (.aload_n 0) 1 0 0 0 := rfl
theorem oq_X10_clear_1 : cw_ho 101 1 (.iconst 0) 1 0 0 0 := rfl
theorem oq_X10_clear_2 : cw_ho 101 2 (.putfield 24) 3 10 2 0 := rfl
theorem oq_X10_clear_5 : cw_ho 101 5 (.return_) 1 0 0 0 := rfl
theorem oq_X11_takeSpare_0 : cw_ho 110 0 (.aload_n 0) 1 0 0 0 := rfl
theorem oq_X11_takeSpare_1 : cw_ho 110 1 (.getfield 18) 3 11 2 4 := rfl
theorem oq_X11_takeSpare_4 : cw_ho 110 4 (.astore_n 1) 1 0 0 0 := rfl
theorem oq_X11_takeSpare_5 : cw_ho 110 5 (.aload_n 0) 1 0 0 0 := rfl
theorem oq_X11_takeSpare_6 : cw_ho 110 6 (.aload_n 0) 1 0 0 0 := rfl
theorem oq_X11_takeSpare_7 : cw_ho 110 7 (.getfield 22) 3 11 3 4 := rfl
theorem oq_X11_takeSpare_10 : cw_ho 110 10 (.putfield 18) 3 11 2 4 := rfl
theorem oq_X11_takeSpare_13 : cw_ho 110 13 (.aload_n 0) 1 0 0 0 := rfl
theorem oq_X11_takeSpare_14 : cw_ho 110 14 (.aload_n 1) 1 0 0 0 := rfl
theorem oq_X11_takeSpare_15 : cw_ho 110 15 (.putfield 22) 3 11 3 4 := rfl
theorem oq_X11_takeSpare_18 : cw_ho 110 18 (.aload_n 0) 1 0 0 0 := rfl
theorem oq_X11_takeSpare_19 : cw_ho 110 19 (.getfield 37) 3 11 5 4 := rfl
theorem oq_X11_takeSpare_22 : cw_ho 110 22 (.invokevirtual 110) 3 29 0 2 := rfl
theorem oq_X11_takeSpare_25 : cw_ho 110 25 (.iconst 0) 1 0 0 0 := rfl
theorem oq_X11_takeSpare_26 : cw_ho 110 26 (.istore_n 2) 1 0 0 0 := rfl
theorem oq_X11_takeSpare_27 : cw_ho 110 27 (.iload_n 2) 1 0 0 0 := rfl
theorem oq_X11_takeSpare_28 : cw_ho 110 28 (.iconst 4) 1 0 0 0 := rfl
theorem oq_X11_takeSpare_29 : cw_ho 110 29 (.if_icmp .ge 23) 3 0 0 0 := rfl
theorem oq_X11_takeSpare_32 : cw_ho 110 32 (.aload_n 0) 1 0 0 0 := rfl
theorem oq_X11_takeSpare_33 : cw_ho 110 33 (.getfield 50) 3 11 7 4 := rfl
theorem oq_X11_takeSpare_36 : cw_ho 110 36 (.iload_n 2) 1 0 0 0 := rfl
theorem oq_X11_takeSpare_37 : cw_ho 110 37 (.aaload) 1 0 0 0 := rfl
theorem oq_X11_takeSpare_38 : cw_ho 110 38 (.aload_n 0) 1 0 0 0 := rfl
theorem oq_X11_takeSpare_39 : cw_ho 110 39 (.getfield 18) 3 11 2 4 := rfl
theorem oq_X11_takeSpare_42 : cw_ho 110 42 (.iload_n 2) 1 0 0 0 := rfl
theorem oq_X11_takeSpare_43 : cw_ho 110 43 (.invokevirtual 113) 3 14 2 1 := rfl
theorem oq_X11_takeSpare_46 : cw_ho 110 46 (.iinc 2 1) 3 0 0 0 := rfl
theorem oq_X11_takeSpare_49 : cw_ho 110 49 (.goto (-22)) 3 0 0 0 := rfl
theorem oq_X11_takeSpare_52 : cw_ho 110 52 (.aload_n 0) 1 0 0 0 := rfl
theorem oq_X11_takeSpare_53 : cw_ho 110 53 (.iconst 0) 1 0 0 0 := rfl
theorem oq_X11_takeSpare_54 : cw_ho 110 54 (.putfield 117) 3 11 8 0 := rfl
theorem oq_X11_takeSpare_57 : cw_ho 110 57 (.aload_n 0) 1 0 0 0 := rfl
theorem oq_X11_takeSpare_58 : cw_ho 110 58 (.iconst (-1)) 1 0 0 0 := rfl
theorem oq_X11_takeSpare_59 : cw_ho 110 59 (.putfield 57) 3 11 10 0 := rfl
theorem oq_X11_takeSpare_62 : cw_ho 110 62 (.aload_n 0) 1 0 0 0 := rfl
theorem oq_X11_takeSpare_63 : cw_ho 110 63 (.getfield 66) 3 11 11 4 := rfl
theorem oq_X11_takeSpare_66 : cw_ho 110 66 (.invokevirtual 120) 3 101 0 10 := rfl
theorem oq_X11_takeSpare_69 : cw_ho 110 69 (.aload_n 0) 1 0 0 0 := rfl
theorem oq_X11_takeSpare_70 : cw_ho 110 70 (.getfield 73) 3 11 12 4 := rfl
theorem oq_X11_takeSpare_73 : cw_ho 110 73 (.invokevirtual 123) 3 41 0 3 := rfl
theorem oq_X11_takeSpare_76 : cw_ho 110 76 (.return_) 1 0 0 0 := rfl
end TZ
end
section
/-! ===== text, weeks, keep, back: both sides ===== -/
theorem ztx_k {t : Nat → Int} {n : Nat} : ∀ (u : Nat) (k : Int) (s : zSg) (p : Nat) (s' : zSg) (k' : Int), ztx t n u k s p = .inr (s', k') → k ≤ k'
  | 0, k, s, p, s', k', e => by cases e; exact Int.le_refl _
  | u + 1, k, s, p, s', k', e => by
    rw [ztx_s] at e
    by_cases c : zk t n p = 0
    · rw [if_pos c] at e; cases e; exact Int.le_refl _
    · rw [if_neg c] at e
      obtain ⟨s1, q, -, e2⟩ := zb2_e e
      have := ztx_k u _ _ _ _ _ e2
      omega
section TZ
variable {G : Int} {X : cv_X} {Q : cv_O → Prop} {t : Nat → Int}
theorem ct_isAhead {h : cv_H} (n : Int32) (hQ : ∀ x : Int32, (x.toInt = 1 ∧ (0 ≤ n.toInt ∧ n.toInt ≤ 520) ∨ x.toInt = 0 ∧ ¬ (0 ≤ n.toInt ∧ n.toInt ≤ 520)) → Q (some (cv_i x), h)) : cw_X X 116 Q 0 (cv_ent 0 [cv_i n]) [] h := by
  refine ex_il oq_X11_isAhead_0 rfl ?_
  refine ex_if0 oq_X11_isAhead_1 (t := 15) rfl rfl (fun (c11 : n.toInt < 0) => ?_) (fun (c11 : ¬ (n.toInt < 0)) => ?_)
  · refine ex_ic oq_X11_isAhead_15 (m := 0) (by decide) (fun x12 hx12 => ?_)
    exact ex_retb oq_X11_isAhead_16 rfl (by omega) (by omega) (hQ x12 (by omega))
  · refine ex_il oq_X11_isAhead_4 rfl ?_
    refine ex_si oq_X11_isAhead_5 (m := 520) (by decide) (fun x13 hx13 => ?_)
    refine ex_if oq_X11_isAhead_8 (t := 15) rfl rfl (fun (c14 : x13.toInt < n.toInt) => ?_) (fun (c14 : ¬ (x13.toInt < n.toInt)) => ?_)
    · refine ex_ic oq_X11_isAhead_15 (m := 0) (by decide) (fun x15 hx15 => ?_)
      exact ex_retb oq_X11_isAhead_16 rfl (by omega) (by omega) (hQ x15 (by omega))
    · refine ex_ic oq_X11_isAhead_11 (m := 1) (by decide) (fun x16 hx16 => ?_)
      refine ex_go oq_X11_isAhead_12 (t := 16) rfl rfl ?_
      exact ex_retb oq_X11_isAhead_16 rfl (by omega) (by omega) (hQ x16 (by omega))
set_option maxHeartbeats 8000000 in
theorem wk_lp {h0 : cv_H} (hX : cw_Xok X) (hP : cw_PP G h0) {w : Int} {n : Int32} (hn : 0 ≤ n.toInt ∧ n.toInt ≤ 520) (hw2 : 0 ≤ w ∧ w + n.toInt ≤ 2000) (hQ : ∀ (x : Int32) h', cw_T G h' → cw_PP G h' → cw_Fr cw_Ds cw_sh kk_X11_weeks.2.2.2.2.2.1 h0 h' → ((¬ (0 ≤ n.toInt ∧ n.toInt ≤ 520) ∨ 2000 < w + n.toInt) ∧ x.toInt = -1 ∧ ri_at h' 0 8 = w ∨ ((0 ≤ n.toInt ∧ n.toInt ≤ 520) ∧ w + n.toInt ≤ 2000) ∧ x.toInt = w + n.toInt ∧ ri_at h' 0 8 = w + n.toInt) → Q (some (cv_i x), h')) : ∀ (u i : Nat) (L : cv_L) (I : Int32) (h : cv_H), i + u = 4 → cw_T G h → cw_Fr cw_Ds cw_sh kk_X11_weeks.2.2.2.2.2.1 h0 h → ri_at h 0 8 = w → I.toInt = i → cv_get L 0 = some (cv_r 0) → cv_get L 1 = some (cv_i n) → cv_get L 2 = some (cv_i I) → cw_X X 121 Q 23 L [] h := by
  intro u
  induction u with
  | zero =>
    intro i L I h hiu hT Fh hw hI g0 g1 g2
    refine ex_il oq_X11_weeks_23 g2 ?_
    refine ex_al oq_X11_weeks_24 g0 ?_
    obtain ⟨k101, ak101, sk101⟩ := ri_refs (k := 0) (d := 11) (f := 2) hT rfl rfl rfl (by decide)
    refine ex_gf oq_X11_weeks_25 hT (k := 0) (d := 11) rfl rfl ak101 ?_
    obtain ⟨x102, ax102, rx102, lx102, ux102⟩ := ri_fld (k := k101) (d := 4) (f := 9) hT sk101 rfl rfl
    try dsimp only at lx102 ux102
    refine ex_gf oq_X11_weeks_28 hT (k := k101) (d := 4) sk101 rfl ax102 ?_
    refine ex_if oq_X11_weeks_31 (t := 71) rfl rfl (fun (c103 : x102.toInt ≤ I.toInt) => ?_) (fun (c103 : ¬ (x102.toInt ≤ I.toInt)) => ?_)
    · refine ex_al oq_X11_weeks_71 g0 ?_
      refine ex_dup oq_X11_weeks_72 rfl ?_
      obtain ⟨x104, ax104, rx104, lx104, ux104⟩ := ri_fld (k := 0) (d := 11) (f := 8) hT rfl rfl rfl
      try dsimp only at lx104 ux104
      refine ex_gf oq_X11_weeks_73 hT (k := 0) (d := 11) rfl rfl ax104 ?_
      have rx104 := (rx104.symm.trans hw : x104.toInt = w)
      refine ex_il oq_X11_weeks_76 g1 ?_
      refine ex_add oq_X11_weeks_77 (by omega) (fun x105 hx105 => ?_)
      refine ex_pfi oq_X11_weeks_78 hT (k := 0) (d := 11) rfl rfl rfl (by omega) (by omega) (fun h106 Th106 wh106 => ?_)
      have Fh106 : cw_Fr cw_Ds cw_sh kk_X11_weeks.2.2.2.2.2.1 h0 h106 := cw_Fr_tr Fh (cw_Fr_wrf wh106 (k := 0) (d := 11) rfl rfl (by decide +kernel))
      have eh106_0_8 : ri_at h106 0 8 = x105.toInt := ri_self wh106
      refine ex_al oq_X11_weeks_81 g0 ?_
      obtain ⟨x107, ax107, rx107, lx107, ux107⟩ := ri_fld (k := 0) (d := 11) (f := 8) Th106 rfl rfl rfl
      try dsimp only at lx107 ux107
      refine ex_gf oq_X11_weeks_82 Th106 (k := 0) (d := 11) rfl rfl ax107 ?_
      have rx107 := (rx107.symm.trans eh106_0_8 : x107.toInt = x105.toInt)
      exact ex_reti oq_X11_weeks_85 rfl (hQ x107 h106 Th106 (pp_fr0 (by decide +kernel) hP Fh106) Fh106 (by omega))
    · refine ex_il oq_X11_weeks_34 g2 ?_
      refine ex_al oq_X11_weeks_35 g0 ?_
      refine ex_gf oq_X11_weeks_36 hT (k := 0) (d := 11) rfl rfl (ri_ref (k := 0) (k' := 61) (d := 11) (f := 7) hT rfl rfl rfl (by decide) (ri_uniq (by decide +kernel))) ?_
      refine ex_lenr oq_X11_weeks_39 hT (k := 61) (d := 14) rfl rfl (by decide) (fun x108 hx108 => ?_)
      refine ex_if oq_X11_weeks_40 (t := 71) rfl rfl (fun (c109 : x108.toInt ≤ I.toInt) => ?_) (fun (c109 : ¬ (x108.toInt ≤ I.toInt)) => ?_)
      · refine ex_al oq_X11_weeks_71 g0 ?_
        refine ex_dup oq_X11_weeks_72 rfl ?_
        obtain ⟨x110, ax110, rx110, lx110, ux110⟩ := ri_fld (k := 0) (d := 11) (f := 8) hT rfl rfl rfl
        try dsimp only at lx110 ux110
        refine ex_gf oq_X11_weeks_73 hT (k := 0) (d := 11) rfl rfl ax110 ?_
        have rx110 := (rx110.symm.trans hw : x110.toInt = w)
        refine ex_il oq_X11_weeks_76 g1 ?_
        refine ex_add oq_X11_weeks_77 (by omega) (fun x111 hx111 => ?_)
        refine ex_pfi oq_X11_weeks_78 hT (k := 0) (d := 11) rfl rfl rfl (by omega) (by omega) (fun h112 Th112 wh112 => ?_)
        have Fh112 : cw_Fr cw_Ds cw_sh kk_X11_weeks.2.2.2.2.2.1 h0 h112 := cw_Fr_tr Fh (cw_Fr_wrf wh112 (k := 0) (d := 11) rfl rfl (by decide +kernel))
        have eh112_0_8 : ri_at h112 0 8 = x111.toInt := ri_self wh112
        refine ex_al oq_X11_weeks_81 g0 ?_
        obtain ⟨x113, ax113, rx113, lx113, ux113⟩ := ri_fld (k := 0) (d := 11) (f := 8) Th112 rfl rfl rfl
        try dsimp only at lx113 ux113
        refine ex_gf oq_X11_weeks_82 Th112 (k := 0) (d := 11) rfl rfl ax113 ?_
        have rx113 := (rx113.symm.trans eh112_0_8 : x113.toInt = x111.toInt)
        exact ex_reti oq_X11_weeks_85 rfl (hQ x113 h112 Th112 (pp_fr0 (by decide +kernel) hP Fh112) Fh112 (by omega))
      · exfalso; omega
  | succ u ih =>
    intro i L I h hiu hT Fh hw hI g0 g1 g2
    refine ex_il oq_X11_weeks_23 g2 ?_
    refine ex_al oq_X11_weeks_24 g0 ?_
    obtain ⟨k101, ak101, sk101⟩ := ri_refs (k := 0) (d := 11) (f := 2) hT rfl rfl rfl (by decide)
    refine ex_gf oq_X11_weeks_25 hT (k := 0) (d := 11) rfl rfl ak101 ?_
    obtain ⟨x102, ax102, rx102, lx102, ux102⟩ := ri_fld (k := k101) (d := 4) (f := 9) hT sk101 rfl rfl
    try dsimp only at lx102 ux102
    refine ex_gf oq_X11_weeks_28 hT (k := k101) (d := 4) sk101 rfl ax102 ?_
    refine ex_if oq_X11_weeks_31 (t := 71) rfl rfl (fun (c103 : x102.toInt ≤ I.toInt) => ?_) (fun (c103 : ¬ (x102.toInt ≤ I.toInt)) => ?_)
    · refine ex_al oq_X11_weeks_71 g0 ?_
      refine ex_dup oq_X11_weeks_72 rfl ?_
      obtain ⟨x104, ax104, rx104, lx104, ux104⟩ := ri_fld (k := 0) (d := 11) (f := 8) hT rfl rfl rfl
      try dsimp only at lx104 ux104
      refine ex_gf oq_X11_weeks_73 hT (k := 0) (d := 11) rfl rfl ax104 ?_
      have rx104 := (rx104.symm.trans hw : x104.toInt = w)
      refine ex_il oq_X11_weeks_76 g1 ?_
      refine ex_add oq_X11_weeks_77 (by omega) (fun x105 hx105 => ?_)
      refine ex_pfi oq_X11_weeks_78 hT (k := 0) (d := 11) rfl rfl rfl (by omega) (by omega) (fun h106 Th106 wh106 => ?_)
      have Fh106 : cw_Fr cw_Ds cw_sh kk_X11_weeks.2.2.2.2.2.1 h0 h106 := cw_Fr_tr Fh (cw_Fr_wrf wh106 (k := 0) (d := 11) rfl rfl (by decide +kernel))
      have eh106_0_8 : ri_at h106 0 8 = x105.toInt := ri_self wh106
      refine ex_al oq_X11_weeks_81 g0 ?_
      obtain ⟨x107, ax107, rx107, lx107, ux107⟩ := ri_fld (k := 0) (d := 11) (f := 8) Th106 rfl rfl rfl
      try dsimp only at lx107 ux107
      refine ex_gf oq_X11_weeks_82 Th106 (k := 0) (d := 11) rfl rfl ax107 ?_
      have rx107 := (rx107.symm.trans eh106_0_8 : x107.toInt = x105.toInt)
      exact ex_reti oq_X11_weeks_85 rfl (hQ x107 h106 Th106 (pp_fr0 (by decide +kernel) hP Fh106) Fh106 (by omega))
    · refine ex_il oq_X11_weeks_34 g2 ?_
      refine ex_al oq_X11_weeks_35 g0 ?_
      refine ex_gf oq_X11_weeks_36 hT (k := 0) (d := 11) rfl rfl (ri_ref (k := 0) (k' := 61) (d := 11) (f := 7) hT rfl rfl rfl (by decide) (ri_uniq (by decide +kernel))) ?_
      refine ex_lenr oq_X11_weeks_39 hT (k := 61) (d := 14) rfl rfl (by decide) (fun x108 hx108 => ?_)
      refine ex_if oq_X11_weeks_40 (t := 71) rfl rfl (fun (c109 : x108.toInt ≤ I.toInt) => ?_) (fun (c109 : ¬ (x108.toInt ≤ I.toInt)) => ?_)
      · refine ex_al oq_X11_weeks_71 g0 ?_
        refine ex_dup oq_X11_weeks_72 rfl ?_
        obtain ⟨x110, ax110, rx110, lx110, ux110⟩ := ri_fld (k := 0) (d := 11) (f := 8) hT rfl rfl rfl
        try dsimp only at lx110 ux110
        refine ex_gf oq_X11_weeks_73 hT (k := 0) (d := 11) rfl rfl ax110 ?_
        have rx110 := (rx110.symm.trans hw : x110.toInt = w)
        refine ex_il oq_X11_weeks_76 g1 ?_
        refine ex_add oq_X11_weeks_77 (by omega) (fun x111 hx111 => ?_)
        refine ex_pfi oq_X11_weeks_78 hT (k := 0) (d := 11) rfl rfl rfl (by omega) (by omega) (fun h112 Th112 wh112 => ?_)
        have Fh112 : cw_Fr cw_Ds cw_sh kk_X11_weeks.2.2.2.2.2.1 h0 h112 := cw_Fr_tr Fh (cw_Fr_wrf wh112 (k := 0) (d := 11) rfl rfl (by decide +kernel))
        have eh112_0_8 : ri_at h112 0 8 = x111.toInt := ri_self wh112
        refine ex_al oq_X11_weeks_81 g0 ?_
        obtain ⟨x113, ax113, rx113, lx113, ux113⟩ := ri_fld (k := 0) (d := 11) (f := 8) Th112 rfl rfl rfl
        try dsimp only at lx113 ux113
        refine ex_gf oq_X11_weeks_82 Th112 (k := 0) (d := 11) rfl rfl ax113 ?_
        have rx113 := (rx113.symm.trans eh112_0_8 : x113.toInt = x111.toInt)
        exact ex_reti oq_X11_weeks_85 rfl (hQ x113 h112 Th112 (pp_fr0 (by decide +kernel) hP Fh112) Fh112 (by omega))
      · refine ex_al oq_X11_weeks_43 g0 ?_
        refine ex_gf oq_X11_weeks_44 hT (k := 0) (d := 11) rfl rfl (ri_ref (k := 0) (k' := 55) (d := 11) (f := 5) hT rfl rfl rfl (by decide) (ri_uniq (by decide +kernel))) ?_
        refine ex_al oq_X11_weeks_47 g0 ?_
        obtain ⟨k114, ak114, sk114⟩ := ri_refs (k := 0) (d := 11) (f := 2) hT rfl rfl rfl (by decide)
        refine ex_gf oq_X11_weeks_48 hT (k := 0) (d := 11) rfl rfl ak114 ?_
        refine ex_al oq_X11_weeks_51 g0 ?_
        refine ex_gf oq_X11_weeks_52 hT (k := 0) (d := 11) rfl rfl (ri_ref (k := 0) (k' := 61) (d := 11) (f := 7) hT rfl rfl rfl (by decide) (ri_uniq (by decide +kernel))) ?_
        refine ex_il oq_X11_weeks_55 g2 ?_
        refine ex_aa oq_X11_weeks_56 hT (k := 61) (d := 14) (j := I.toInt.toNat) rfl rfl (by omega) (by omega) (fun k115 ak115 sk115 => ?_)
        refine ex_al oq_X11_weeks_57 g0 ?_
        obtain ⟨x116, ax116, rx116, lx116, ux116⟩ := ri_fld (k := 0) (d := 11) (f := 8) hT rfl rfl rfl
        try dsimp only at lx116 ux116
        refine ex_gf oq_X11_weeks_58 hT (k := 0) (d := 11) rfl rfl ax116 ?_
        have rx116 := (rx116.symm.trans hw : x116.toInt = w)
        refine ex_il oq_X11_weeks_61 g1 ?_
        have Ph : cw_PP G h := pp_fr0 (by decide +kernel) hP Fh
        refine ex_cv oq_X11_weeks_62 (by decide) hT (k := 55) (d := 2) (as := [cv_r k114, cv_r k115, cv_i x116, cv_i n]) (stk := []) rfl rfl rfl rfl rfl rfl ⟨rfl, rfl⟩ (cw_HX hz_X2_pass rfl (cw_Xok_no2 hX) ⟨hT, Ph⟩ ⟨.inl ⟨by decide, 55, rfl, rfl⟩, .inl ⟨by decide, k114, rfl, sk114⟩, .inl ⟨by decide, k115, rfl, sk115⟩, ⟨_, rfl, by show (0 : Int) ≤ _; omega, by show _ ≤ (3100 : Int); omega, cw_tg0⟩, ⟨_, rfl, by show (0 : Int) ≤ _; omega, by show _ ≤ (520 : Int); omega, cw_tg0⟩, trivial⟩ (fun t ht => absurd ht List.not_mem_nil)) (fun ox118 hox118 => ?_)
        obtain ⟨h117, rfl, Th117, Ph117, Ch117⟩ := po_non hox118 rfl
        show cw_X _ _ _ _ _ [] h117
        have Fh117 : cw_Fr cw_Ds cw_sh kk_X11_weeks.2.2.2.2.2.1 h0 h117 := cw_Fr_tr Fh (cw_Fr_mono (by decide +kernel) Ch117)
        have eh117_0_8 : ri_at h117 0 8 = w := (ri_frf Ch117 (k := 0) (d := 11) rfl rfl (by decide +kernel)).trans hw
        refine ex_incA oq_X11_weeks_65 (v := I) (m := 1) g2 (by decide) (by omega) (fun L120 x119 hx119 gL120_2 kL120 => ?_)
        have gL120_0 : cv_get L120 0 = some (cv_r 0) := kL120 0 _ (by decide) (fun q => absurd q (by decide)) g0
        have gL120_1 : cv_get L120 1 = some (cv_i n) := kL120 1 _ (by decide) (fun _ => rfl) g1
        refine ex_go oq_X11_weeks_68 (t := 23) rfl rfl ?_
        exact ih (i + 1) L120 x119 h117 (by omega) Th117 Fh117 eh117_0_8 (by omega) gL120_0 gL120_1 gL120_2
set_option maxHeartbeats 8000000 in
theorem ct_weeks {h0 : cv_H} (hX : cw_Xok X) (hT : cw_T G h0) (hP : cw_PP G h0) (n : Int32) {w : Int} (hw : ri_at h0 0 8 = w) (hQ : ∀ (x : Int32) h', cw_T G h' → cw_PP G h' → cw_Fr cw_Ds cw_sh kk_X11_weeks.2.2.2.2.2.1 h0 h' → ((¬ (0 ≤ n.toInt ∧ n.toInt ≤ 520) ∨ 2000 < w + n.toInt) ∧ x.toInt = -1 ∧ ri_at h' 0 8 = w ∨ ((0 ≤ n.toInt ∧ n.toInt ≤ 520) ∧ w + n.toInt ≤ 2000) ∧ x.toInt = w + n.toInt ∧ ri_at h' 0 8 = w + n.toInt) → Q (some (cv_i x), h')) : cw_X X 121 Q 0 (cv_ent 0 [cv_r 0, cv_i n]) [] h0 := by
  have Fh0 : cw_Fr cw_Ds cw_sh kk_X11_weeks.2.2.2.2.2.1 h0 h0 := cw_Fr_refl
  refine ex_il oq_X11_weeks_0 rfl ?_
  refine ex_cs oq_X11_weeks_1 (by decide) (as := [cv_i n]) (stk := []) rfl rfl rfl ⟨rfl, rfl⟩ (R := fun o => ∃ x : Int32, o = (some (cv_i x), h0) ∧ (x.toInt = 1 ∧ (0 ≤ n.toInt ∧ n.toInt ≤ 520) ∨ x.toInt = 0 ∧ ¬ (0 ≤ n.toInt ∧ n.toInt ≤ 520))) (ct_isAhead n (fun x q => ⟨x, rfl, q⟩)) (fun o ho => ?_)
  obtain ⟨x301, rfl, dx301⟩ := ho
  show cw_X _ _ _ _ _ [cv_i x301] h0
  refine ex_if0 oq_X11_weeks_4 (t := 19) rfl rfl (fun (c302 : x301.toInt = 0) => ?_) (fun (c302 : ¬ (x301.toInt = 0)) => ?_)
  · replace dx301 := bit_n dx301 c302
    refine ex_ic oq_X11_weeks_19 (m := (-1)) (by decide) (fun x303 hx303 => ?_)
    exact ex_reti oq_X11_weeks_20 rfl (hQ x303 h0 hT (pp_fr0 (by decide +kernel) hP Fh0) Fh0 (by omega))
  · replace c302 : ¬ x301.toInt = 0 := by omega
    replace dx301 := bit_y dx301 c302
    refine ex_al oq_X11_weeks_7 rfl ?_
    obtain ⟨x304, ax304, rx304, lx304, ux304⟩ := ri_fld (k := 0) (d := 11) (f := 8) hT rfl rfl rfl
    try dsimp only at lx304 ux304
    refine ex_gf oq_X11_weeks_8 hT (k := 0) (d := 11) rfl rfl ax304 ?_
    have rx304 := (rx304.symm.trans hw : x304.toInt = w)
    refine ex_il oq_X11_weeks_11 rfl ?_
    refine ex_add oq_X11_weeks_12 (by omega) (fun x305 hx305 => ?_)
    refine ex_si oq_X11_weeks_13 (m := 2000) (by decide) (fun x306 hx306 => ?_)
    refine ex_if oq_X11_weeks_16 (t := 21) rfl rfl (fun (c307 : x305.toInt ≤ x306.toInt) => ?_) (fun (c307 : ¬ (x305.toInt ≤ x306.toInt)) => ?_)
    · refine ex_ic oq_X11_weeks_21 (m := 0) (by decide) (fun x308 hx308 => ?_)
      refine ex_isA oq_X11_weeks_22 (fun L309 gL309_2 kL309 => ?_)
      have gL309_0 : cv_get L309 0 = some (cv_r 0) := kL309 0 _ (by decide) (fun q => absurd q (by decide)) rfl
      have gL309_1 : cv_get L309 1 = some (cv_i n) := kL309 1 _ (by decide) (fun _ => rfl) rfl
      exact wk_lp hX hP (w := w) (n := n) (by omega) (by omega) hQ 4 0 L309 x308 h0 (by omega) hT Fh0 hw (by omega) gL309_0 gL309_1 gL309_2
    · refine ex_ic oq_X11_weeks_19 (m := (-1)) (by decide) (fun x310 hx310 => ?_)
      exact ex_reti oq_X11_weeks_20 rfl (hQ x310 h0 hT (pp_fr0 (by decide +kernel) hP Fh0) Fh0 (by omega))
theorem oq_X11_keep_0 : cw_ho 150 0 (.iconst 0) 1 0 0 0 := rfl
theorem oq_X11_keep_1 : cw_ho 150 1 (.istore_n 1) 1 0 0 0 := rfl
theorem oq_X11_keep_2 : cw_ho 150 2 (.iload_n 1) 1 0 0 0 := rfl
theorem oq_X11_keep_3 : cw_ho 150 3 (.iconst 4) 1 0 0 0 := rfl
theorem oq_X11_keep_4 : cw_ho 150 4 (.if_icmp .ge 24) 3 0 0 0 := rfl
theorem oq_X11_keep_7 : cw_ho 150 7 (.aload_n 0) 1 0 0 0 := rfl
theorem oq_X11_keep_8 : cw_ho 150 8 (.getfield 54) 3 11 9 4 := rfl
theorem oq_X11_keep_11 : cw_ho 150 11 (.iload_n 1) 1 0 0 0 := rfl
theorem oq_X11_keep_12 : cw_ho 150 12 (.aaload) 1 0 0 0 := rfl
theorem oq_X11_keep_13 : cw_ho 150 13 (.aload_n 0) 1 0 0 0 := rfl
theorem oq_X11_keep_14 : cw_ho 150 14 (.getfield 50) 3 11 7 4 := rfl
theorem oq_X11_keep_17 : cw_ho 150 17 (.iload_n 1) 1 0 0 0 := rfl
theorem oq_X11_keep_18 : cw_ho 150 18 (.aaload) 1 0 0 0 := rfl
theorem oq_X11_keep_19 : cw_ho 150 19 (.invokevirtual 286) 3 16 1 1 := rfl
theorem oq_X11_keep_22 : cw_ho 150 22 (.iinc 1 1) 3 0 0 0 := rfl
theorem oq_X11_keep_25 : cw_ho 150 25 (.goto (-23)) 3 0 0 0 := rfl
theorem oq_X11_keep_28 : cw_ho 150 28 (.aload_n 0) 1 0 0 0 := rfl
theorem oq_X11_keep_29 : cw_ho 150 29 (.aload_n 0) 1 0 0 0 := rfl
theorem oq_X11_keep_30 : cw_ho 150 30 (.getfield 117) 3 11 8 0 := rfl
theorem oq_X11_keep_33 : cw_ho 150 33 (.putfield 57) 3 11 10 0 := rfl
theorem oq_X11_keep_36 : cw_ho 150 36 (.aload_n 0) 1 0 0 0 := rfl
theorem oq_X11_keep_37 : cw_ho 150 37 (.getfield 117) 3 11 8 0 := rfl
theorem oq_X11_keep_40 : cw_ho 150 40 (.ireturn) 1 0 0 0 := rfl
theorem oq_X11_back_0 : cw_ho 151 0 (.aload_n 0) 1 0 0 0 := rfl
theorem oq_X11_back_1 : cw_ho 151 1 (.getfield 57) 3 11 10 0 := rfl
theorem oq_X11_back_4 : cw_ho 151 4 (.iconst (-1)) 1 0 0 0 := rfl
theorem oq_X11_back_5 : cw_ho 151 5 (.if_icmp .ne 5) 3 0 0 0 := rfl
theorem oq_X11_back_8 : cw_ho 151 8 (.iconst (-1)) 1 0 0 0 := rfl
theorem oq_X11_back_9 : cw_ho 151 9 (.ireturn) 1 0 0 0 := rfl
theorem oq_X11_back_10 : cw_ho 151 10 (.iconst 0) 1 0 0 0 := rfl
theorem oq_X11_back_11 : cw_ho 151 11 (.istore_n 1) 1 0 0 0 := rfl
theorem oq_X11_back_12 : cw_ho 151 12 (.iload_n 1) 1 0 0 0 := rfl
theorem oq_X11_back_13 : cw_ho 151 13 (.iconst 4) 1 0 0 0 := rfl
theorem oq_X11_back_14 : cw_ho 151 14 (.if_icmp .ge 24) 3 0 0 0 := rfl
theorem oq_X11_back_17 : cw_ho 151 17 (.aload_n 0) 1 0 0 0 := rfl
theorem oq_X11_back_18 : cw_ho 151 18 (.getfield 50) 3 11 7 4 := rfl
theorem oq_X11_back_21 : cw_ho 151 21 (.iload_n 1) 1 0 0 0 := rfl
theorem oq_X11_back_22 : cw_ho 151 22 (.aaload) 1 0 0 0 := rfl
theorem oq_X11_back_23 : cw_ho 151 23 (.aload_n 0) 1 0 0 0 := rfl
theorem oq_X11_back_24 : cw_ho 151 24 (.getfield 54) 3 11 9 4 := rfl
theorem oq_X11_back_27 : cw_ho 151 27 (.iload_n 1) 1 0 0 0 := rfl
theorem oq_X11_back_28 : cw_ho 151 28 (.aaload) 1 0 0 0 := rfl
theorem oq_X11_back_29 : cw_ho 151 29 (.invokevirtual 286) 3 16 1 1 := rfl
theorem oq_X11_back_32 : cw_ho 151 32 (.iinc 1 1) 3 0 0 0 := rfl
theorem oq_X11_back_35 : cw_ho 151 35 (.goto (-23)) 3 0 0 0 := rfl
theorem oq_X11_back_38 : cw_ho 151 38 (.aload_n 0) 1 0 0 0 := rfl
theorem oq_X11_back_39 : cw_ho 151 39 (.aload_n 0) 1 0 0 0 := rfl
theorem oq_X11_back_40 : cw_ho 151 40 (.getfield 57) 3 11 10 0 := rfl
theorem oq_X11_back_43 : cw_ho 151 43 (.putfield 117) 3 11 8 0 := rfl
theorem oq_X11_back_46 : cw_ho 151 46 (.aload_n 0) 1 0 0 0 := rfl
theorem oq_X11_back_47 : cw_ho 151 47 (.getfield 66) 3 11 11 4 := rfl
theorem oq_X11_back_50 : cw_ho 151 50 (.invokevirtual 120) 3 101 0 10 := rfl
theorem oq_X11_back_53 : cw_ho 151 53 (.aload_n 0) 1 0 0 0 := rfl
theorem oq_X11_back_54 : cw_ho 151 54 (.getfield 117) 3 11 8 0 := rfl
theorem oq_X11_back_57 : cw_ho 151 57 (.ireturn) 1 0 0 0 := rfl
end TZ
end
section
/-! ===== weeks, keep, back: the reference ===== -/
section TZ
variable {G : Int} {X : cv_X} {Q : cv_O → Prop}
theorem oq_X12_keep_0 : cw_ho 270 0 (.aload_n 0) 1 0 0 0 := rfl
theorem oq_X12_keep_1 : cw_ho 270 1 (.iconst 0) 1 0 0 0 := rfl
theorem oq_X12_keep_2 : cw_ho 270 2 (.putfield 136) 3 12 2 0 := rfl
theorem oq_X12_keep_5 : cw_ho 270 5 (.aload_n 0) 1 0 0 0 := rfl
theorem oq_X12_keep_6 : cw_ho 270 6 (.iconst 1) 1 0 0 0 := rfl
theorem oq_X12_keep_7 : cw_ho 270 7 (.putfield 249) 3 12 66 2 := rfl
theorem oq_X12_keep_10 : cw_ho 270 10 (.aload_n 0) 1 0 0 0 := rfl
theorem oq_X12_keep_11 : cw_ho 270 11 (.aload_n 0) 1 0 0 0 := rfl
theorem oq_X12_keep_12 : cw_ho 270 12 (.getfield 240) 3 12 43 0 := rfl
theorem oq_X12_keep_15 : cw_ho 270 15 (.putfield 512) 3 12 67 0 := rfl
theorem oq_X12_keep_18 : cw_ho 270 18 (.iconst 0) 1 0 0 0 := rfl
theorem oq_X12_keep_19 : cw_ho 270 19 (.istore_n 1) 1 0 0 0 := rfl
theorem oq_X12_keep_20 : cw_ho 270 20 (.iload_n 1) 1 0 0 0 := rfl
theorem oq_X12_keep_21 : cw_ho 270 21 (.iconst 4) 1 0 0 0 := rfl
theorem oq_X12_keep_22 : cw_ho 270 22 (.if_icmp .ge 28) 3 0 0 0 := rfl
theorem oq_X12_keep_25 : cw_ho 270 25 (.aload_n 0) 1 0 0 0 := rfl
theorem oq_X12_keep_26 : cw_ho 270 26 (.getfield 127) 3 12 68 4 := rfl
theorem oq_X12_keep_29 : cw_ho 270 29 (.bipush 16) 2 0 0 0 := rfl
theorem oq_X12_keep_31 : cw_ho 270 31 (.iload_n 1) 1 0 0 0 := rfl
theorem oq_X12_keep_32 : cw_ho 270 32 (.imul) 1 0 0 0 := rfl
theorem oq_X12_keep_33 : cw_ho 270 33 (.aload_n 0) 1 0 0 0 := rfl
theorem oq_X12_keep_34 : cw_ho 270 34 (.getfield 69) 3 12 44 4 := rfl
theorem oq_X12_keep_37 : cw_ho 270 37 (.bipush 16) 2 0 0 0 := rfl
theorem oq_X12_keep_39 : cw_ho 270 39 (.iload_n 1) 1 0 0 0 := rfl
theorem oq_X12_keep_40 : cw_ho 270 40 (.imul) 1 0 0 0 := rfl
theorem oq_X12_keep_41 : cw_ho 270 41 (.invokestatic 236) 3 200 4 0 := rfl
theorem oq_X12_keep_44 : cw_ho 270 44 (.iinc 1 1) 3 0 0 0 := rfl
theorem oq_X12_keep_47 : cw_ho 270 47 (.goto (-27)) 3 0 0 0 := rfl
theorem oq_X12_keep_50 : cw_ho 270 50 (.aload_n 0) 1 0 0 0 := rfl
theorem oq_X12_keep_51 : cw_ho 270 51 (.getfield 240) 3 12 43 0 := rfl
theorem oq_X12_keep_54 : cw_ho 270 54 (.ireturn) 1 0 0 0 := rfl
theorem oq_X12_back_0 : cw_ho 271 0 (.aload_n 0) 1 0 0 0 := rfl
theorem oq_X12_back_1 : cw_ho 271 1 (.iconst 0) 1 0 0 0 := rfl
theorem oq_X12_back_2 : cw_ho 271 2 (.putfield 136) 3 12 2 0 := rfl
theorem oq_X12_back_5 : cw_ho 271 5 (.aload_n 0) 1 0 0 0 := rfl
theorem oq_X12_back_6 : cw_ho 271 6 (.getfield 249) 3 12 66 2 := rfl
theorem oq_X12_back_9 : cw_ho 271 9 (.ifCond .ne 5) 3 0 0 0 := rfl
theorem oq_X12_back_12 : cw_ho 271 12 (.iconst (-1)) 1 0 0 0 := rfl
theorem oq_X12_back_13 : cw_ho 271 13 (.ireturn) 1 0 0 0 := rfl
theorem oq_X12_back_14 : cw_ho 271 14 (.aload_n 0) 1 0 0 0 := rfl
theorem oq_X12_back_15 : cw_ho 271 15 (.aload_n 0) 1 0 0 0 := rfl
theorem oq_X12_back_16 : cw_ho 271 16 (.getfield 512) 3 12 67 0 := rfl
theorem oq_X12_back_19 : cw_ho 271 19 (.putfield 240) 3 12 43 0 := rfl
theorem oq_X12_back_22 : cw_ho 271 22 (.iconst 0) 1 0 0 0 := rfl
theorem oq_X12_back_23 : cw_ho 271 23 (.istore_n 1) 1 0 0 0 := rfl
theorem oq_X12_back_24 : cw_ho 271 24 (.iload_n 1) 1 0 0 0 := rfl
theorem oq_X12_back_25 : cw_ho 271 25 (.iconst 4) 1 0 0 0 := rfl
theorem oq_X12_back_26 : cw_ho 271 26 (.if_icmp .ge 28) 3 0 0 0 := rfl
theorem oq_X12_back_29 : cw_ho 271 29 (.aload_n 0) 1 0 0 0 := rfl
theorem oq_X12_back_30 : cw_ho 271 30 (.getfield 69) 3 12 44 4 := rfl
theorem oq_X12_back_33 : cw_ho 271 33 (.bipush 16) 2 0 0 0 := rfl
theorem oq_X12_back_35 : cw_ho 271 35 (.iload_n 1) 1 0 0 0 := rfl
theorem oq_X12_back_36 : cw_ho 271 36 (.imul) 1 0 0 0 := rfl
theorem oq_X12_back_37 : cw_ho 271 37 (.aload_n 0) 1 0 0 0 := rfl
theorem oq_X12_back_38 : cw_ho 271 38 (.getfield 127) 3 12 68 4 := rfl
theorem oq_X12_back_41 : cw_ho 271 41 (.bipush 16) 2 0 0 0 := rfl
theorem oq_X12_back_43 : cw_ho 271 43 (.iload_n 1) 1 0 0 0 := rfl
theorem oq_X12_back_44 : cw_ho 271 44 (.imul) 1 0 0 0 := rfl
theorem oq_X12_back_45 : cw_ho 271 45 (.invokestatic 236) 3 200 4 0 := rfl
theorem oq_X12_back_48 : cw_ho 271 48 (.iinc 1 1) 3 0 0 0 := rfl
theorem oq_X12_back_51 : cw_ho 271 51 (.goto (-27)) 3 0 0 0 := rfl
theorem oq_X12_back_54 : cw_ho 271 54 (.aload_n 0) 1 0 0 0 := rfl
theorem oq_X12_back_55 : cw_ho 271 55 (.iconst 0) 1 0 0 0 := rfl
theorem oq_X12_back_56 : cw_ho 271 56 (.putfield 246) 3 12 50 0 := rfl
theorem oq_X12_back_59 : cw_ho 271 59 (.aload_n 0) 1 0 0 0 := rfl
theorem oq_X12_back_60 : cw_ho 271 60 (.getfield 240) 3 12 43 0 := rfl
theorem oq_X12_back_63 : cw_ho 271 63 (.ireturn) 1 0 0 0 := rfl
end TZ
end
