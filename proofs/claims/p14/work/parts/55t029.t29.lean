/-! ===== formulas, values and signs: the class ===== -/
theorem rl_pa {k w kc vc : Int} (h : tz_rel k w kc vc) : (kc = 6 ↔ k = 4 ∧ w = 40) ∧ (kc = 7 ↔ k = 4 ∧ w = 41) ∧ (kc = 4 ↔ k = 3) ∧ (k = 3 → 0 ≤ vc ∧ vc ≤ 1000000 ∧ (w ≤ 9999 → vc = w) ∧ (9999 < w → 9999 < vc)) := by
  unfold tz_rel at h
  rcases h with h | h | h | h | h | h | h
  · refine ⟨by omega, by omega, by omega, fun q => by omega⟩
  · obtain ⟨h1, h2, -⟩ := h
    refine ⟨by omega, by omega, by omega, fun q => by omega⟩
  · refine ⟨by omega, by omega, by omega, fun q => by omega⟩
  · refine ⟨by omega, by omega, by omega, fun q => by omega⟩
  · refine ⟨?_, ?_, ?_, fun q => by omega⟩ <;> constructor <;> intro q <;> omega
  · refine ⟨by omega, by omega, by omega, fun q => by omega⟩
  · refine ⟨by omega, by omega, by omega, fun q => by omega⟩
theorem zhd_e {p : Prop} (h : zhd p) : p := h
theorem rl_va {k w kc vc : Int} (h : tz_rel k w kc vc) : (kc = 6 ↔ k = 4 ∧ w = 40) ∧ (kc = 2 ∧ vc = 33 ↔ k = 1 ∧ w = 23) ∧ (kc = 4 ↔ k = 3) ∧ (k = 3 → 0 ≤ vc ∧ (9999 < vc ↔ 9999 < w)) ∧ (kc = 2 ↔ k = 1) := by
  have a := rl_pa h
  have b := rl_pw h
  refine ⟨a.1, ⟨fun q => ?_, fun q => ?_⟩, a.2.2.1, fun q => ?_, b.1.symm⟩
  · have := b.2 q.1
    have := b.1
    omega
  · have h2 := b.1.mp q.1
    have := b.2 h2
    omega
  · have := a.2.2.2 q
    omega
theorem zc_0 {st : List Int} : zc0 (0 :: st) = zc0 st + 1 ∧ zcb (0 :: st) = zcb st ∧ zcu (0 :: st) = zcu st := by
  refine ⟨?_, ?_, ?_⟩
  · rw [zc0, if_pos rfl]; omega
  · rw [zcb, if_neg (by decide)]; omega
  · rw [zcu, if_neg (by decide)]; omega
theorem zc_2 {st : List Int} : zc0 (2 :: st) = zc0 st ∧ zcb (2 :: st) = zcb st ∧ zcu (2 :: st) = zcu st + 1 := by
  refine ⟨?_, ?_, ?_⟩
  · rw [zc0, if_neg (by decide)]; omega
  · rw [zcb, if_neg (by decide)]; omega
  · rw [zcu, if_pos rfl]; omega
theorem zc_3 {a : Int} {st : List Int} (h : 3 ≤ a) : zc0 (a :: st) = zc0 st ∧ zcb (a :: st) = zcb st + 1 ∧ zcu (a :: st) = zcu st := by
  refine ⟨?_, ?_, ?_⟩
  · rw [zc0, if_neg (by omega)]; omega
  · rw [zcb, if_pos h]; omega
  · rw [zcu, if_neg (by omega)]; omega
theorem zrk_3 {a : Int} (h : 3 ≤ a) (h' : a ≤ 14) : zrk a < 3 ↔ a = 3 ∨ a = 4 := by unfold zrk; (repeat' split) <;> omega
/-- what the class holds of a formula -/
def zFC (b : Nat) (h : cv_H) (st : List Int) (kn w m : Int) : Prop := zok st ∧ zrow h 54 (st.map zsi) ∧ ri_at h 53 2 = st.length ∧ ri_at h 53 3 = zc0 st ∧ ri_at h 53 5 = w ∧ ri_at h 53 6 = m ∧ ri_at h b 2 + zcb st + zcu st = kn ∧ ri_at h b 3 = kn ∧ 0 ≤ ri_at h b 2 ∧ kn ≤ 64 ∧ zc0 st ≤ 8
def zFe (t : Nat → Int) (n p : Nat) (z : (Int × Nat) ⊕ (zF4 × Nat)) (x : Int) (D : zF4 → Prop) : Prop := (∃ s, z = .inr (s, zx t n p) ∧ x = 0 ∧ D s) ∨ (∃ c, z = .inl (c, za t n p) ∧ x = c ∧ 1 ≤ c)
def znm (v : Int) : Prop := v = 13 ∨ v = 17 ∨ v = 18 ∨ 24 ≤ v ∧ v ≤ 30
theorem znm_e {k w kc vc : Int} (h : tz_rel k w kc vc) (h2 : kc = 2) : znm vc ↔ 24 ≤ w := by
  have := (rl_pw h).2 h2
  unfold znm
  omega
theorem zFC_mk {b : Nat} {h : cv_H} {st : List Int} {kn w m : Int} (a1 : zok st) (a2 : zrow h 54 (st.map zsi)) (a3 : ri_at h 53 2 = st.length) (a4 : ri_at h 53 3 = zc0 st) (a5 : ri_at h 53 5 = w) (a6 : ri_at h 53 6 = m) (a7 : ri_at h b 2 + zcb st + zcu st = kn) (a8 : ri_at h b 3 = kn) (a9 : 0 ≤ ri_at h b 2) (a10 : kn ≤ 64) (a11 : zc0 st ≤ 8) : zFC b h st kn w m := ⟨a1, a2, a3, a4, a5, a6, a7, a8, a9, a10, a11⟩
section TZ
variable {G : Int} {X : cv_X} {Q : cv_O → Prop} {t : Nat → Int}
theorem oq_X0_signOf_0 : cw_ho 7 0 (.aload_n 0) 1 0 0 0 := rfl
theorem oq_X0_signOf_1 : cw_ho 7 1 (.getfield 15) 3 0 0 4 := rfl
theorem oq_X0_signOf_4 : cw_ho 7 4 (.getfield 59) 3 6 4 0 := rfl
theorem oq_X0_signOf_7 : cw_ho 7 7 (.iconst 5) 1 0 0 0 := rfl
theorem oq_X0_signOf_8 : cw_ho 7 8 (.if_icmp .ne 11) 3 0 0 0 := rfl
theorem oq_X0_signOf_11 : cw_ho 7 11 (.aload_n 0) 1 0 0 0 := rfl
theorem oq_X0_signOf_12 : cw_ho 7 12 (.getfield 15) 3 0 0 4 := rfl
theorem oq_X0_signOf_15 : cw_ho 7 15 (.getfield 87) 3 6 6 0 := rfl
theorem oq_X0_signOf_18 : cw_ho 7 18 (.ireturn) 1 0 0 0 := rfl
theorem oq_X0_signOf_19 : cw_ho 7 19 (.aload_n 0) 1 0 0 0 := rfl
theorem oq_X0_signOf_20 : cw_ho 7 20 (.getfield 15) 3 0 0 4 := rfl
theorem oq_X0_signOf_23 : cw_ho 7 23 (.bipush 31) 2 0 0 0 := rfl
theorem oq_X0_signOf_25 : cw_ho 7 25 (.invokevirtual 65) 3 83 1 6 := rfl
theorem oq_X0_signOf_28 : cw_ho 7 28 (.ifCond .eq 7) 3 0 0 0 := rfl
theorem oq_X0_signOf_31 : cw_ho 7 31 (.sipush 20001) 3 0 0 0 := rfl
theorem oq_X0_signOf_34 : cw_ho 7 34 (.ireturn) 1 0 0 0 := rfl
theorem oq_X0_signOf_35 : cw_ho 7 35 (.aload_n 0) 1 0 0 0 := rfl
theorem oq_X0_signOf_36 : cw_ho 7 36 (.getfield 15) 3 0 0 4 := rfl
theorem oq_X0_signOf_39 : cw_ho 7 39 (.bipush 32) 2 0 0 0 := rfl
theorem oq_X0_signOf_41 : cw_ho 7 41 (.invokevirtual 65) 3 83 1 6 := rfl
theorem oq_X0_signOf_44 : cw_ho 7 44 (.ifCond .eq 9) 3 0 0 0 := rfl
theorem oq_X0_signOf_47 : cw_ho 7 47 (.sipush 20000) 3 0 0 0 := rfl
theorem oq_X0_signOf_50 : cw_ho 7 50 (.goto 4) 3 0 0 0 := rfl
theorem oq_X0_signOf_53 : cw_ho 7 53 (.iconst (-1)) 1 0 0 0 := rfl
theorem oq_X0_signOf_54 : cw_ho 7 54 (.ireturn) 1 0 0 0 := rfl
theorem ct_signOf {h : cv_H} (hT : cw_T G h) {k w kc vc : Int} (hk : ri_at h 51 4 = kc) (hv : ri_at h 51 6 = vc) (hrel : tz_rel k w kc vc) (hQ : ∀ x : Int32, x.toInt = zsv k w → Q (some (cv_i x), h)) : cw_X X 7 Q 0 (cv_ent 0 [cv_r 53]) [] h := by
  refine ex_al oq_X0_signOf_0 rfl ?_
  refine ex_gf oq_X0_signOf_1 hT (k := 53) (d := 0) rfl rfl (ri_ref (k := 53) (k' := 51) (d := 0) (f := 0) hT rfl rfl rfl (by decide) (ri_uniq (by decide +kernel))) ?_
  obtain ⟨x11, ax11, rx11, lx11, ux11⟩ := ri_fld (k := 51) (d := 6) (f := 4) hT rfl rfl rfl
  try dsimp only at lx11 ux11
  refine ex_gf oq_X0_signOf_4 hT (k := 51) (d := 6) rfl rfl ax11 ?_
  clear lx11 ux11
  have rx11 := (rx11.symm.trans hk : x11.toInt = kc)
  refine ex_ic oq_X0_signOf_7 (m := 5) (by decide) (fun x12 hx12 => ?_)
  refine ex_if oq_X0_signOf_8 (t := 19) rfl rfl (fun (c13 : ¬ x11.toInt = x12.toInt) => ?_) (fun (c13 : ¬ (¬ x11.toInt = x12.toInt)) => ?_)
  · refine ex_al oq_X0_signOf_19 rfl ?_
    refine ex_gf oq_X0_signOf_20 hT (k := 53) (d := 0) rfl rfl (ri_ref (k := 53) (k' := 51) (d := 0) (f := 0) hT rfl rfl rfl (by decide) (ri_uniq (by decide +kernel))) ?_
    refine ex_bi oq_X0_signOf_23 (m := 31) (by decide) (fun x14 hx14 => ?_)
    refine ex_cv oq_X0_signOf_25 (by decide) hT (k := 51) (d := 6) (as := [cv_i x14]) (stk := []) rfl rfl rfl rfl rfl rfl ⟨rfl, rfl⟩ (R := fun o => ∃ x : Int32, o = (some (cv_i x), h) ∧ (x.toInt = 1 ∧ (kc = 2 ∧ vc = x14.toInt) ∨ x.toInt = 0 ∧ ¬ (kc = 2 ∧ vc = x14.toInt))) (ct_isWord hT x14 hk hv (fun x q => ⟨x, rfl, q⟩)) (fun o ho => ?_)
    obtain ⟨x15, rfl, dx15⟩ := ho
    show cw_X _ _ _ _ _ [cv_i x15] h
    rw [hx14] at dx15
    refine ex_if0 oq_X0_signOf_28 (t := 35) rfl rfl (fun (c16 : x15.toInt = 0) => ?_) (fun (c16 : ¬ (x15.toInt = 0)) => ?_)
    · replace dx15 := bit_n dx15 c16
      refine ex_al oq_X0_signOf_35 rfl ?_
      refine ex_gf oq_X0_signOf_36 hT (k := 53) (d := 0) rfl rfl (ri_ref (k := 53) (k' := 51) (d := 0) (f := 0) hT rfl rfl rfl (by decide) (ri_uniq (by decide +kernel))) ?_
      refine ex_bi oq_X0_signOf_39 (m := 32) (by decide) (fun x17 hx17 => ?_)
      refine ex_cv oq_X0_signOf_41 (by decide) hT (k := 51) (d := 6) (as := [cv_i x17]) (stk := []) rfl rfl rfl rfl rfl rfl ⟨rfl, rfl⟩ (R := fun o => ∃ x : Int32, o = (some (cv_i x), h) ∧ (x.toInt = 1 ∧ (kc = 2 ∧ vc = x17.toInt) ∨ x.toInt = 0 ∧ ¬ (kc = 2 ∧ vc = x17.toInt))) (ct_isWord hT x17 hk hv (fun x q => ⟨x, rfl, q⟩)) (fun o ho => ?_)
      obtain ⟨x18, rfl, dx18⟩ := ho
      show cw_X _ _ _ _ _ [cv_i x18] h
      rw [hx17] at dx18
      refine ex_if0 oq_X0_signOf_44 (t := 53) rfl rfl (fun (c19 : x18.toInt = 0) => ?_) (fun (c19 : ¬ (x18.toInt = 0)) => ?_)
      · replace dx18 := bit_n dx18 c19
        refine ex_ic oq_X0_signOf_53 (m := (-1)) (by decide) (fun x20 hx20 => ?_)
        exact ex_reti oq_X0_signOf_54 rfl (hQ x20 (by have := zsv_e hrel; omega))
      · replace c19 : ¬ x18.toInt = 0 := by omega
        replace dx18 := bit_y dx18 c19
        refine ex_si oq_X0_signOf_47 (m := 20000) (by decide) (fun x21 hx21 => ?_)
        refine ex_go oq_X0_signOf_50 (t := 54) rfl rfl ?_
        exact ex_reti oq_X0_signOf_54 rfl (hQ x21 (by have := zsv_e hrel; omega))
    · replace c16 : ¬ x15.toInt = 0 := by omega
      replace dx15 := bit_y dx15 c16
      refine ex_si oq_X0_signOf_31 (m := 20001) (by decide) (fun x22 hx22 => ?_)
      exact ex_reti oq_X0_signOf_34 rfl (hQ x22 (by have := zsv_e hrel; omega))
  · refine ex_al oq_X0_signOf_11 rfl ?_
    refine ex_gf oq_X0_signOf_12 hT (k := 53) (d := 0) rfl rfl (ri_ref (k := 53) (k' := 51) (d := 0) (f := 0) hT rfl rfl rfl (by decide) (ri_uniq (by decide +kernel))) ?_
    obtain ⟨x23, ax23, rx23, lx23, ux23⟩ := ri_fld (k := 51) (d := 6) (f := 6) hT rfl rfl rfl
    try dsimp only at lx23 ux23
    refine ex_gf oq_X0_signOf_15 hT (k := 51) (d := 6) rfl rfl ax23 ?_
    clear lx23 ux23
    have rx23 := (rx23.symm.trans hv : x23.toInt = vc)
    exact ex_reti oq_X0_signOf_18 rfl (hQ x23 (by have := zsv_e hrel; omega))
theorem oq_X0_holdKnot_0 : cw_ho 9 0 (.aload_n 0) 1 0 0 0 := rfl
theorem oq_X0_holdKnot_1 : cw_ho 9 1 (.getfield 19) 3 0 7 4 := rfl
theorem oq_X0_holdKnot_4 : cw_ho 9 4 (.getfield 76) 3 4 3 0 := rfl
theorem oq_X0_holdKnot_7 : cw_ho 9 7 (.bipush 64) 2 0 0 0 := rfl
theorem oq_X0_holdKnot_9 : cw_ho 9 9 (.if_icmp .lt 5) 3 0 0 0 := rfl
theorem oq_X0_holdKnot_12 : cw_ho 9 12 (.iconst 2) 1 0 0 0 := rfl
theorem oq_X0_holdKnot_13 : cw_ho 9 13 (.ireturn) 1 0 0 0 := rfl
theorem oq_X0_holdKnot_14 : cw_ho 9 14 (.aload_n 0) 1 0 0 0 := rfl
theorem oq_X0_holdKnot_15 : cw_ho 9 15 (.getfield 19) 3 0 7 4 := rfl
theorem oq_X0_holdKnot_18 : cw_ho 9 18 (.dup) 1 0 0 0 := rfl
theorem oq_X0_holdKnot_19 : cw_ho 9 19 (.getfield 76) 3 4 3 0 := rfl
theorem oq_X0_holdKnot_22 : cw_ho 9 22 (.iconst 1) 1 0 0 0 := rfl
theorem oq_X0_holdKnot_23 : cw_ho 9 23 (.iadd) 1 0 0 0 := rfl
theorem oq_X0_holdKnot_24 : cw_ho 9 24 (.putfield 76) 3 4 3 0 := rfl
theorem oq_X0_holdKnot_27 : cw_ho 9 27 (.aload_n 0) 1 0 0 0 := rfl
theorem oq_X0_holdKnot_28 : cw_ho 9 28 (.iload_n 1) 1 0 0 0 := rfl
theorem oq_X0_holdKnot_29 : cw_ho 9 29 (.invokevirtual 84) 3 10 1 0 := rfl
theorem oq_X0_holdKnot_32 : cw_ho 9 32 (.iconst 0) 1 0 0 0 := rfl
theorem oq_X0_holdKnot_33 : cw_ho 9 33 (.ireturn) 1 0 0 0 := rfl
theorem ct_holdKnot {h0 : cv_H} {b : Nat} (hb4 : cw_sh[b]? = some 4) (hp7 : cw_at h0 53 7 = some (cv_r b)) {a kn : Int} {st : List Int} {s : Int32} (hT : cw_T G h0) (hr : zrow h0 54 (st.map zsi)) (hc : ri_at h0 53 2 = st.length) (hkn : ri_at h0 b 3 = kn) (hl : st.length < 73) (hn0 : 0 ≤ kn) (ha : s.toInt = zsi a) (hQ : ∀ (x : Int32) h', cw_T G h' → cw_Fr cw_Ds cw_sh kk_X0_holdKnot.2.2.2.2.2.1 h0 h' → (x.toInt = 2 ∧ 64 ≤ kn ∨ x.toInt = 0 ∧ kn < 64 ∧ zrow h' 54 ((a :: st).map zsi) ∧ ri_at h' 53 2 = st.length + 1 ∧ ri_at h' b 3 = kn + 1) → Q (some (cv_i x), h')) : cw_X X 9 Q 0 (cv_ent 0 [cv_r 53, cv_i s]) [] h0 := by
  have Fh0 : cw_Fr cw_Ds cw_sh kk_X0_holdKnot.2.2.2.2.2.1 h0 h0 := cw_Fr_refl
  have hP7 : ∀ h, cw_Fr cw_Ds cw_sh kk_X0_holdKnot.2.2.2.2.2.1 h0 h → cw_at h 53 7 = some (cv_r b) := fun h F => (F.2 53 0 7 rfl (by decide +kernel)).trans hp7
  refine ex_al oq_X0_holdKnot_0 rfl ?_
  refine ex_gf oq_X0_holdKnot_1 hT (k := 53) (d := 0) rfl rfl ((hP7 _ Fh0)) ?_
  obtain ⟨x11, ax11, rx11, lx11, ux11⟩ := ri_fld (k := b) (d := 4) (f := 3) hT hb4 rfl rfl
  try dsimp only at lx11 ux11
  refine ex_gf oq_X0_holdKnot_4 hT (k := b) (d := 4) hb4 rfl ax11 ?_
  clear lx11 ux11
  have rx11 := (rx11.symm.trans hkn : x11.toInt = kn)
  refine ex_bi oq_X0_holdKnot_7 (m := 64) (by decide) (fun x12 hx12 => ?_)
  refine ex_if oq_X0_holdKnot_9 (t := 14) rfl rfl (fun (c13 : x11.toInt < x12.toInt) => ?_) (fun (c13 : ¬ (x11.toInt < x12.toInt)) => ?_)
  · refine ex_al oq_X0_holdKnot_14 rfl ?_
    refine ex_gf oq_X0_holdKnot_15 hT (k := 53) (d := 0) rfl rfl ((hP7 _ Fh0)) ?_
    refine ex_dup oq_X0_holdKnot_18 rfl ?_
    obtain ⟨x14, ax14, rx14, lx14, ux14⟩ := ri_fld (k := b) (d := 4) (f := 3) hT hb4 rfl rfl
    try dsimp only at lx14 ux14
    refine ex_gf oq_X0_holdKnot_19 hT (k := b) (d := 4) hb4 rfl ax14 ?_
    clear lx14 ux14
    have rx14 := (rx14.symm.trans hkn : x14.toInt = kn)
    refine ex_ic oq_X0_holdKnot_22 (m := 1) (by decide) (fun x15 hx15 => ?_)
    refine ex_add oq_X0_holdKnot_23 (by omega) (fun x16 hx16 => ?_)
    refine ex_pfi oq_X0_holdKnot_24 hT (k := b) (d := 4) hb4 rfl rfl (cw_i32 _).1 (cw_i32 _).2 (fun h17 Th17 wh17 => ?_)
    have Fh17 : cw_Fr cw_Ds cw_sh kk_X0_holdKnot.2.2.2.2.2.1 h0 h17 := cw_Fr_tr Fh0 (cw_Fr_wrf wh17 (k := b) (d := 4) hb4 rfl (by decide +kernel))
    have eh17_53_2 : ri_at h17 53 2 = (st.length : Int) := (ri_ne wh17 (.inl (cw_kne (k := 53) (d := 0) (k' := b) (d' := 4) rfl hb4 (by decide)))).trans hc
    have eh17_b_3 : ri_at h17 b 3 = x16.toInt := ri_self wh17
    have Rh17 := zrow_eq hr (fun i => ri_ne wh17 (.inl (cw_kne (k := 54) (d := 16) (k' := b) (d' := 4) rfl hb4 (by decide))))
    refine ex_al oq_X0_holdKnot_27 rfl ?_
    refine ex_il oq_X0_holdKnot_28 rfl ?_
    refine ex_cv oq_X0_holdKnot_29 (by decide) Th17 (k := 53) (d := 0) (as := [cv_i s]) (stk := []) rfl rfl rfl rfl rfl rfl ⟨rfl, rfl⟩ (R := fun o => ∃ hb : cv_H, o = (none, hb) ∧ cw_T G hb ∧ cw_Fr cw_Ds cw_sh kk_X0_hold.2.2.2.2.2.1 h17 hb ∧ zrow hb 54 ((a :: st).map zsi) ∧ ri_at hb 53 2 = (st).length + 1) (ct_hold (a := a) (st := st) Th17 Rh17 eh17_53_2 (by omega) (ha) (fun hb b1 b2 b3 b4 => ⟨hb, rfl, b1, b2, b3, b4⟩)) (fun o ho => ?_)
    obtain ⟨h18, rfl, Th18, Ch18, Rh18, ch18⟩ := ho
    show cw_X _ _ _ _ _ [] h18
    have Fh18 : cw_Fr cw_Ds cw_sh kk_X0_holdKnot.2.2.2.2.2.1 h0 h18 := cw_Fr_tr Fh17 (cw_Fr_mono (by decide +kernel) Ch18)
    have eh18_b_3 : ri_at h18 b 3 = x16.toInt := (ri_frf Ch18 (k := b) (d := 4) hb4 rfl (by decide +kernel)).trans eh17_b_3
    clear eh17_b_3
    refine ex_ic oq_X0_holdKnot_32 (m := 0) (by decide) (fun x19 hx19 => ?_)
    exact ex_reti oq_X0_holdKnot_33 rfl (hQ x19 h18 Th18 Fh18 (.inr ⟨by omega, by omega, Rh18, by omega, by omega⟩))
  · refine ex_ic oq_X0_holdKnot_12 (m := 2) (by decide) (fun x20 hx20 => ?_)
    exact ex_reti oq_X0_holdKnot_13 rfl (hQ x20 h0 hT Fh0 (.inl ⟨by omega, by omega⟩))
theorem oq_X0_openParen_0 : cw_ho 3 0 (.aload_n 0) 1 0 0 0 := rfl
theorem oq_X0_openParen_1 : cw_ho 3 1 (.getfield 27) 3 0 3 0 := rfl
theorem oq_X0_openParen_4 : cw_ho 3 4 (.bipush 8) 2 0 0 0 := rfl
theorem oq_X0_openParen_6 : cw_ho 3 6 (.if_icmp .lt 5) 3 0 0 0 := rfl
theorem oq_X0_openParen_9 : cw_ho 3 9 (.iconst 2) 1 0 0 0 := rfl
theorem oq_X0_openParen_10 : cw_ho 3 10 (.ireturn) 1 0 0 0 := rfl
theorem oq_X0_openParen_11 : cw_ho 3 11 (.aload_n 0) 1 0 0 0 := rfl
theorem oq_X0_openParen_12 : cw_ho 3 12 (.dup) 1 0 0 0 := rfl
theorem oq_X0_openParen_13 : cw_ho 3 13 (.getfield 27) 3 0 3 0 := rfl
theorem oq_X0_openParen_16 : cw_ho 3 16 (.iconst 1) 1 0 0 0 := rfl
theorem oq_X0_openParen_17 : cw_ho 3 17 (.iadd) 1 0 0 0 := rfl
theorem oq_X0_openParen_18 : cw_ho 3 18 (.putfield 27) 3 0 3 0 := rfl
theorem oq_X0_openParen_21 : cw_ho 3 21 (.aload_n 0) 1 0 0 0 := rfl
theorem oq_X0_openParen_22 : cw_ho 3 22 (.sipush 20013) 3 0 0 0 := rfl
theorem oq_X0_openParen_25 : cw_ho 3 25 (.invokevirtual 84) 3 10 1 0 := rfl
theorem oq_X0_openParen_28 : cw_ho 3 28 (.aload_n 0) 1 0 0 0 := rfl
theorem oq_X0_openParen_29 : cw_ho 3 29 (.iconst 1) 1 0 0 0 := rfl
theorem oq_X0_openParen_30 : cw_ho 3 30 (.putfield 37) 3 0 6 2 := rfl
theorem oq_X0_openParen_33 : cw_ho 3 33 (.iconst 0) 1 0 0 0 := rfl
theorem oq_X0_openParen_34 : cw_ho 3 34 (.ireturn) 1 0 0 0 := rfl
theorem ct_openParen {h0 : cv_H} {c : Int} {st : List Int} (hT : cw_T G h0) (hr : zrow h0 54 (st.map zsi)) (hc : ri_at h0 53 2 = st.length) (ho : ri_at h0 53 3 = c) (hc0 : 0 ≤ c) (hl : st.length < 73) (hQ : ∀ (x : Int32) h', cw_T G h' → cw_Fr cw_Ds cw_sh kk_X0_openParen.2.2.2.2.2.1 h0 h' → (x.toInt = 2 ∧ 8 ≤ c ∨ x.toInt = 0 ∧ c < 8 ∧ zrow h' 54 ((0 :: st).map zsi) ∧ ri_at h' 53 2 = st.length + 1 ∧ ri_at h' 53 3 = c + 1 ∧ ri_at h' 53 6 = 1) → Q (some (cv_i x), h')) : cw_X X 3 Q 0 (cv_ent 0 [cv_r 53]) [] h0 := by
  have Fh0 : cw_Fr cw_Ds cw_sh kk_X0_openParen.2.2.2.2.2.1 h0 h0 := cw_Fr_refl
  refine ex_al oq_X0_openParen_0 rfl ?_
  obtain ⟨x11, ax11, rx11, lx11, ux11⟩ := ri_fld (k := 53) (d := 0) (f := 3) hT rfl rfl rfl
  try dsimp only at lx11 ux11
  refine ex_gf oq_X0_openParen_1 hT (k := 53) (d := 0) rfl rfl ax11 ?_
  clear lx11 ux11
  have rx11 := (rx11.symm.trans ho : x11.toInt = c)
  refine ex_bi oq_X0_openParen_4 (m := 8) (by decide) (fun x12 hx12 => ?_)
  refine ex_if oq_X0_openParen_6 (t := 11) rfl rfl (fun (c13 : x11.toInt < x12.toInt) => ?_) (fun (c13 : ¬ (x11.toInt < x12.toInt)) => ?_)
  · refine ex_al oq_X0_openParen_11 rfl ?_
    refine ex_dup oq_X0_openParen_12 rfl ?_
    obtain ⟨x14, ax14, rx14, lx14, ux14⟩ := ri_fld (k := 53) (d := 0) (f := 3) hT rfl rfl rfl
    try dsimp only at lx14 ux14
    refine ex_gf oq_X0_openParen_13 hT (k := 53) (d := 0) rfl rfl ax14 ?_
    clear lx14 ux14
    have rx14 := (rx14.symm.trans ho : x14.toInt = c)
    refine ex_ic oq_X0_openParen_16 (m := 1) (by decide) (fun x15 hx15 => ?_)
    refine ex_add oq_X0_openParen_17 (by omega) (fun x16 hx16 => ?_)
    refine ex_pfi oq_X0_openParen_18 hT (k := 53) (d := 0) rfl rfl rfl (cw_i32 _).1 (cw_i32 _).2 (fun h17 Th17 wh17 => ?_)
    have Fh17 : cw_Fr cw_Ds cw_sh kk_X0_openParen.2.2.2.2.2.1 h0 h17 := cw_Fr_tr Fh0 (cw_Fr_wrf wh17 (k := 53) (d := 0) rfl rfl (by decide +kernel))
    have eh17_53_2 : ri_at h17 53 2 = (st.length : Int) := (ri_ne wh17 (.inr (by decide))).trans hc
    have eh17_53_3 : ri_at h17 53 3 = x16.toInt := ri_self wh17
    have eh17_53_6 : ri_at h17 53 6 = ri_at h0 53 6 := ri_ne wh17 (.inr (by decide))
    have Rh17 := zrow_eq hr (fun i => ri_ne wh17 (.inl (by decide)))
    refine ex_al oq_X0_openParen_21 rfl ?_
    refine ex_si oq_X0_openParen_22 (m := 20013) (by decide) (fun x18 hx18 => ?_)
    refine ex_cv oq_X0_openParen_25 (by decide) Th17 (k := 53) (d := 0) (as := [cv_i x18]) (stk := []) rfl rfl rfl rfl rfl rfl ⟨rfl, rfl⟩ (R := fun o => ∃ hb : cv_H, o = (none, hb) ∧ cw_T G hb ∧ cw_Fr cw_Ds cw_sh kk_X0_hold.2.2.2.2.2.1 h17 hb ∧ zrow hb 54 ((0 :: st).map zsi) ∧ ri_at hb 53 2 = (st).length + 1) (ct_hold (a := 0) (st := st) Th17 Rh17 eh17_53_2 (by omega) (by rw [hx18]; rfl) (fun hb b1 b2 b3 b4 => ⟨hb, rfl, b1, b2, b3, b4⟩)) (fun o ho => ?_)
    obtain ⟨h19, rfl, Th19, Ch19, Rh19, ch19⟩ := ho
    show cw_X _ _ _ _ _ [] h19
    have Fh19 : cw_Fr cw_Ds cw_sh kk_X0_openParen.2.2.2.2.2.1 h0 h19 := cw_Fr_tr Fh17 (cw_Fr_mono (by decide +kernel) Ch19)
    have eh19_53_3 : ri_at h19 53 3 = x16.toInt := (ri_frf Ch19 (k := 53) (d := 0) rfl rfl (by decide +kernel)).trans eh17_53_3
    clear eh17_53_3
    have eh19_53_6 : ri_at h19 53 6 = ri_at h0 53 6 := (ri_frf Ch19 (k := 53) (d := 0) rfl rfl (by decide +kernel)).trans eh17_53_6
    clear eh17_53_6
    refine ex_al oq_X0_openParen_28 rfl ?_
    refine ex_ic oq_X0_openParen_29 (m := 1) (by decide) (fun x20 hx20 => ?_)
    refine ex_pfb oq_X0_openParen_30 Th19 (k := 53) (d := 0) rfl rfl rfl (by omega) (by omega) (fun h21 Th21 wh21 => ?_)
    have Fh21 : cw_Fr cw_Ds cw_sh kk_X0_openParen.2.2.2.2.2.1 h0 h21 := cw_Fr_tr Fh19 (cw_Fr_wrf wh21 (k := 53) (d := 0) rfl rfl (by decide +kernel))
    have eh21_53_2 : ri_at h21 53 2 = ((st).length : Int) + 1 := (ri_ne wh21 (.inr (by decide))).trans ch19
    have eh21_53_3 : ri_at h21 53 3 = x16.toInt := (ri_ne wh21 (.inr (by decide))).trans eh19_53_3
    clear eh19_53_3
    have eh21_53_6 : ri_at h21 53 6 = x20.toInt := ri_self wh21
    have Rh21 := zrow_eq Rh19 (fun i => ri_ne wh21 (.inl (by decide)))
    refine ex_ic oq_X0_openParen_33 (m := 0) (by decide) (fun x22 hx22 => ?_)
    exact ex_reti oq_X0_openParen_34 rfl (hQ x22 h21 Th21 Fh21 (.inr ⟨by omega, by omega, Rh21, by omega, by omega, by omega⟩))
  · refine ex_ic oq_X0_openParen_9 (m := 2) (by decide) (fun x23 hx23 => ?_)
    exact ex_reti oq_X0_openParen_10 rfl (hQ x23 h0 hT Fh0 (.inl ⟨by omega, by omega⟩))
theorem oq_X0_nameOf_0 : cw_ho 5 0 (.iload_n 0) 1 0 0 0 := rfl
theorem oq_X0_nameOf_1 : cw_ho 5 1 (.tableswitch 111 13 30 #[105, 111, 111, 111, 95, 97, 111, 111, 111, 111, 111, 87, 89, 91, 93, 99, 102, 108]) 87 0 0 0 := rfl
theorem oq_X0_nameOf_88 : cw_ho 5 88 (.iconst 0) 1 0 0 0 := rfl
theorem oq_X0_nameOf_89 : cw_ho 5 89 (.ireturn) 1 0 0 0 := rfl
theorem oq_X0_nameOf_90 : cw_ho 5 90 (.iconst 1) 1 0 0 0 := rfl
theorem oq_X0_nameOf_91 : cw_ho 5 91 (.ireturn) 1 0 0 0 := rfl
theorem oq_X0_nameOf_92 : cw_ho 5 92 (.iconst 2) 1 0 0 0 := rfl
theorem oq_X0_nameOf_93 : cw_ho 5 93 (.ireturn) 1 0 0 0 := rfl
theorem oq_X0_nameOf_94 : cw_ho 5 94 (.iconst 3) 1 0 0 0 := rfl
theorem oq_X0_nameOf_95 : cw_ho 5 95 (.ireturn) 1 0 0 0 := rfl
theorem oq_X0_nameOf_96 : cw_ho 5 96 (.iconst 4) 1 0 0 0 := rfl
theorem oq_X0_nameOf_97 : cw_ho 5 97 (.ireturn) 1 0 0 0 := rfl
theorem oq_X0_nameOf_98 : cw_ho 5 98 (.iconst 5) 1 0 0 0 := rfl
theorem oq_X0_nameOf_99 : cw_ho 5 99 (.ireturn) 1 0 0 0 := rfl
theorem oq_X0_nameOf_100 : cw_ho 5 100 (.bipush 6) 2 0 0 0 := rfl
theorem oq_X0_nameOf_102 : cw_ho 5 102 (.ireturn) 1 0 0 0 := rfl
theorem oq_X0_nameOf_103 : cw_ho 5 103 (.bipush 7) 2 0 0 0 := rfl
theorem oq_X0_nameOf_105 : cw_ho 5 105 (.ireturn) 1 0 0 0 := rfl
theorem oq_X0_nameOf_106 : cw_ho 5 106 (.bipush 8) 2 0 0 0 := rfl
theorem oq_X0_nameOf_108 : cw_ho 5 108 (.ireturn) 1 0 0 0 := rfl
theorem oq_X0_nameOf_109 : cw_ho 5 109 (.bipush 9) 2 0 0 0 := rfl
theorem oq_X0_nameOf_111 : cw_ho 5 111 (.ireturn) 1 0 0 0 := rfl
theorem oq_X0_nameOf_112 : cw_ho 5 112 (.iconst (-1)) 1 0 0 0 := rfl
theorem oq_X0_nameOf_113 : cw_ho 5 113 (.ireturn) 1 0 0 0 := rfl
theorem ct_nameOf {h : cv_H} (w : Int32) (hQ : ∀ x : Int32, (0 ≤ x.toInt ∧ x.toInt ≤ 9 ∧ znm w.toInt ∨ x.toInt = -1 ∧ ¬ znm w.toInt) → Q (some (cv_i x), h)) : cw_X X 5 Q 0 (cv_ent 0 [cv_i w]) [] h := by
  refine ex_il oq_X0_nameOf_0 rfl ?_
  refine ex_tsw oq_X0_nameOf_1 rfl (fun c11 => ⟨rfl, ?_⟩) (fun i hi c11 => ?_)
  · show cw_X _ _ _ 112 _ _ _
    refine ex_ic oq_X0_nameOf_112 (m := (-1)) (by decide) (fun x12 hx12 => ?_)
    exact ex_reti oq_X0_nameOf_113 rfl (hQ x12 (by unfold znm; omega))
  · match i, hi, c11 with
    | 0, _, c11 =>
      refine ⟨rfl, ?_⟩
      show cw_X _ _ _ 106 _ _ _
      refine ex_bi oq_X0_nameOf_106 (m := 8) (by decide) (fun x13 hx13 => ?_)
      exact ex_reti oq_X0_nameOf_108 rfl (hQ x13 (by unfold znm; omega))
    | 1, _, c11 =>
      refine ⟨rfl, ?_⟩
      show cw_X _ _ _ 112 _ _ _
      refine ex_ic oq_X0_nameOf_112 (m := (-1)) (by decide) (fun x14 hx14 => ?_)
      exact ex_reti oq_X0_nameOf_113 rfl (hQ x14 (by unfold znm; omega))
    | 2, _, c11 =>
      refine ⟨rfl, ?_⟩
      show cw_X _ _ _ 112 _ _ _
      refine ex_ic oq_X0_nameOf_112 (m := (-1)) (by decide) (fun x15 hx15 => ?_)
      exact ex_reti oq_X0_nameOf_113 rfl (hQ x15 (by unfold znm; omega))
    | 3, _, c11 =>
      refine ⟨rfl, ?_⟩
      show cw_X _ _ _ 112 _ _ _
      refine ex_ic oq_X0_nameOf_112 (m := (-1)) (by decide) (fun x16 hx16 => ?_)
      exact ex_reti oq_X0_nameOf_113 rfl (hQ x16 (by unfold znm; omega))
    | 4, _, c11 =>
      refine ⟨rfl, ?_⟩
      show cw_X _ _ _ 96 _ _ _
      refine ex_ic oq_X0_nameOf_96 (m := 4) (by decide) (fun x17 hx17 => ?_)
      exact ex_reti oq_X0_nameOf_97 rfl (hQ x17 (by unfold znm; omega))
    | 5, _, c11 =>
      refine ⟨rfl, ?_⟩
      show cw_X _ _ _ 98 _ _ _
      refine ex_ic oq_X0_nameOf_98 (m := 5) (by decide) (fun x18 hx18 => ?_)
      exact ex_reti oq_X0_nameOf_99 rfl (hQ x18 (by unfold znm; omega))
    | 6, _, c11 =>
      refine ⟨rfl, ?_⟩
      show cw_X _ _ _ 112 _ _ _
      refine ex_ic oq_X0_nameOf_112 (m := (-1)) (by decide) (fun x19 hx19 => ?_)
      exact ex_reti oq_X0_nameOf_113 rfl (hQ x19 (by unfold znm; omega))
    | 7, _, c11 =>
      refine ⟨rfl, ?_⟩
      show cw_X _ _ _ 112 _ _ _
      refine ex_ic oq_X0_nameOf_112 (m := (-1)) (by decide) (fun x20 hx20 => ?_)
      exact ex_reti oq_X0_nameOf_113 rfl (hQ x20 (by unfold znm; omega))
    | 8, _, c11 =>
      refine ⟨rfl, ?_⟩
      show cw_X _ _ _ 112 _ _ _
      refine ex_ic oq_X0_nameOf_112 (m := (-1)) (by decide) (fun x21 hx21 => ?_)
      exact ex_reti oq_X0_nameOf_113 rfl (hQ x21 (by unfold znm; omega))
    | 9, _, c11 =>
      refine ⟨rfl, ?_⟩
      show cw_X _ _ _ 112 _ _ _
      refine ex_ic oq_X0_nameOf_112 (m := (-1)) (by decide) (fun x22 hx22 => ?_)
      exact ex_reti oq_X0_nameOf_113 rfl (hQ x22 (by unfold znm; omega))
    | 10, _, c11 =>
      refine ⟨rfl, ?_⟩
      show cw_X _ _ _ 112 _ _ _
      refine ex_ic oq_X0_nameOf_112 (m := (-1)) (by decide) (fun x23 hx23 => ?_)
      exact ex_reti oq_X0_nameOf_113 rfl (hQ x23 (by unfold znm; omega))
    | 11, _, c11 =>
      refine ⟨rfl, ?_⟩
      show cw_X _ _ _ 88 _ _ _
      refine ex_ic oq_X0_nameOf_88 (m := 0) (by decide) (fun x24 hx24 => ?_)
      exact ex_reti oq_X0_nameOf_89 rfl (hQ x24 (by unfold znm; omega))
    | 12, _, c11 =>
      refine ⟨rfl, ?_⟩
      show cw_X _ _ _ 90 _ _ _
      refine ex_ic oq_X0_nameOf_90 (m := 1) (by decide) (fun x25 hx25 => ?_)
      exact ex_reti oq_X0_nameOf_91 rfl (hQ x25 (by unfold znm; omega))
    | 13, _, c11 =>
      refine ⟨rfl, ?_⟩
      show cw_X _ _ _ 92 _ _ _
      refine ex_ic oq_X0_nameOf_92 (m := 2) (by decide) (fun x26 hx26 => ?_)
      exact ex_reti oq_X0_nameOf_93 rfl (hQ x26 (by unfold znm; omega))
    | 14, _, c11 =>
      refine ⟨rfl, ?_⟩
      show cw_X _ _ _ 94 _ _ _
      refine ex_ic oq_X0_nameOf_94 (m := 3) (by decide) (fun x27 hx27 => ?_)
      exact ex_reti oq_X0_nameOf_95 rfl (hQ x27 (by unfold znm; omega))
    | 15, _, c11 =>
      refine ⟨rfl, ?_⟩
      show cw_X _ _ _ 100 _ _ _
      refine ex_bi oq_X0_nameOf_100 (m := 6) (by decide) (fun x28 hx28 => ?_)
      exact ex_reti oq_X0_nameOf_102 rfl (hQ x28 (by unfold znm; omega))
    | 16, _, c11 =>
      refine ⟨rfl, ?_⟩
      show cw_X _ _ _ 103 _ _ _
      refine ex_bi oq_X0_nameOf_103 (m := 7) (by decide) (fun x29 hx29 => ?_)
      exact ex_reti oq_X0_nameOf_105 rfl (hQ x29 (by unfold znm; omega))
    | 17, _, c11 =>
      refine ⟨rfl, ?_⟩
      show cw_X _ _ _ 109 _ _ _
      refine ex_bi oq_X0_nameOf_109 (m := 9) (by decide) (fun x30 hx30 => ?_)
      exact ex_reti oq_X0_nameOf_111 rfl (hQ x30 (by unfold znm; omega))
    | i + 18, hi, _ => exact absurd hi (by show ¬ i + 18 < 18; omega)
theorem oq_X0_valueKnot_0 : cw_ho 4 0 (.aload_n 0) 1 0 0 0 := rfl
theorem oq_X0_valueKnot_1 : cw_ho 4 1 (.getfield 15) 3 0 0 4 := rfl
theorem oq_X0_valueKnot_4 : cw_ho 4 4 (.getfield 59) 3 6 4 0 := rfl
theorem oq_X0_valueKnot_7 : cw_ho 4 7 (.iconst 4) 1 0 0 0 := rfl
theorem oq_X0_valueKnot_8 : cw_ho 4 8 (.if_icmp .ne 11) 3 0 0 0 := rfl
theorem oq_X0_valueKnot_11 : cw_ho 4 11 (.aload_n 0) 1 0 0 0 := rfl
theorem oq_X0_valueKnot_12 : cw_ho 4 12 (.getfield 15) 3 0 0 4 := rfl
theorem oq_X0_valueKnot_15 : cw_ho 4 15 (.getfield 87) 3 6 6 0 := rfl
theorem oq_X0_valueKnot_18 : cw_ho 4 18 (.ireturn) 1 0 0 0 := rfl
theorem oq_X0_valueKnot_19 : cw_ho 4 19 (.aload_n 0) 1 0 0 0 := rfl
theorem oq_X0_valueKnot_20 : cw_ho 4 20 (.getfield 15) 3 0 0 4 := rfl
theorem oq_X0_valueKnot_23 : cw_ho 4 23 (.getfield 59) 3 6 4 0 := rfl
theorem oq_X0_valueKnot_26 : cw_ho 4 26 (.iconst 2) 1 0 0 0 := rfl
theorem oq_X0_valueKnot_27 : cw_ho 4 27 (.if_icmp .ne 16) 3 0 0 0 := rfl
theorem oq_X0_valueKnot_30 : cw_ho 4 30 (.aload_n 0) 1 0 0 0 := rfl
theorem oq_X0_valueKnot_31 : cw_ho 4 31 (.getfield 15) 3 0 0 4 := rfl
theorem oq_X0_valueKnot_34 : cw_ho 4 34 (.getfield 87) 3 6 6 0 := rfl
theorem oq_X0_valueKnot_37 : cw_ho 4 37 (.invokestatic 90) 3 5 1 0 := rfl
theorem oq_X0_valueKnot_40 : cw_ho 4 40 (.goto 4) 3 0 0 0 := rfl
theorem oq_X0_valueKnot_43 : cw_ho 4 43 (.iconst (-1)) 1 0 0 0 := rfl
theorem oq_X0_valueKnot_44 : cw_ho 4 44 (.istore_n 1) 1 0 0 0 := rfl
theorem oq_X0_valueKnot_45 : cw_ho 4 45 (.iload_n 1) 1 0 0 0 := rfl
theorem oq_X0_valueKnot_46 : cw_ho 4 46 (.iconst (-1)) 1 0 0 0 := rfl
theorem oq_X0_valueKnot_47 : cw_ho 4 47 (.if_icmp .ne 5) 3 0 0 0 := rfl
theorem oq_X0_valueKnot_50 : cw_ho 4 50 (.iconst (-1)) 1 0 0 0 := rfl
theorem oq_X0_valueKnot_51 : cw_ho 4 51 (.ireturn) 1 0 0 0 := rfl
theorem oq_X0_valueKnot_52 : cw_ho 4 52 (.aload_n 0) 1 0 0 0 := rfl
theorem oq_X0_valueKnot_53 : cw_ho 4 53 (.dup) 1 0 0 0 := rfl
theorem oq_X0_valueKnot_54 : cw_ho 4 54 (.getfield 30) 3 0 4 0 := rfl
theorem oq_X0_valueKnot_57 : cw_ho 4 57 (.iconst 1) 1 0 0 0 := rfl
theorem oq_X0_valueKnot_58 : cw_ho 4 58 (.iload_n 1) 1 0 0 0 := rfl
theorem oq_X0_valueKnot_59 : cw_ho 4 59 (.ishl) 1 0 0 0 := rfl
theorem oq_X0_valueKnot_60 : cw_ho 4 60 (.ior) 1 0 0 0 := rfl
theorem oq_X0_valueKnot_61 : cw_ho 4 61 (.putfield 30) 3 0 4 0 := rfl
theorem oq_X0_valueKnot_64 : cw_ho 4 64 (.sipush 10000) 3 0 0 0 := rfl
theorem oq_X0_valueKnot_67 : cw_ho 4 67 (.iload_n 1) 1 0 0 0 := rfl
theorem oq_X0_valueKnot_68 : cw_ho 4 68 (.iadd) 1 0 0 0 := rfl
theorem oq_X0_valueKnot_69 : cw_ho 4 69 (.ireturn) 1 0 0 0 := rfl
theorem ct_valueKnot {h0 : cv_H} (hT : cw_T G h0) {kc vc : Int} (hk : ri_at h0 51 4 = kc) (hv : ri_at h0 51 6 = vc) (hQ : ∀ (x : Int32) h', cw_T G h' → cw_Fr cw_Ds cw_sh kk_X0_valueKnot.2.2.2.2.2.1 h0 h' → (kc = 4 ∧ x.toInt = vc ∨ ¬ kc = 4 ∧ kc = 2 ∧ znm vc ∧ 10000 ≤ x.toInt ∧ x.toInt ≤ 10009 ∨ ¬ kc = 4 ∧ ¬ (kc = 2 ∧ znm vc) ∧ x.toInt = -1) → Q (some (cv_i x), h')) : cw_X X 4 Q 0 (cv_ent 0 [cv_r 53]) [] h0 := by
  have Fh0 : cw_Fr cw_Ds cw_sh kk_X0_valueKnot.2.2.2.2.2.1 h0 h0 := cw_Fr_refl
  refine ex_al oq_X0_valueKnot_0 rfl ?_
  refine ex_gf oq_X0_valueKnot_1 hT (k := 53) (d := 0) rfl rfl (ri_ref (k := 53) (k' := 51) (d := 0) (f := 0) hT rfl rfl rfl (by decide) (ri_uniq (by decide +kernel))) ?_
  obtain ⟨x11, ax11, rx11, lx11, ux11⟩ := ri_fld (k := 51) (d := 6) (f := 4) hT rfl rfl rfl
  try dsimp only at lx11 ux11
  refine ex_gf oq_X0_valueKnot_4 hT (k := 51) (d := 6) rfl rfl ax11 ?_
  clear lx11 ux11
  have rx11 := (rx11.symm.trans hk : x11.toInt = kc)
  refine ex_ic oq_X0_valueKnot_7 (m := 4) (by decide) (fun x12 hx12 => ?_)
  refine ex_if oq_X0_valueKnot_8 (t := 19) rfl rfl (fun (c13 : ¬ x11.toInt = x12.toInt) => ?_) (fun (c13 : ¬ (¬ x11.toInt = x12.toInt)) => ?_)
  · refine ex_al oq_X0_valueKnot_19 rfl ?_
    refine ex_gf oq_X0_valueKnot_20 hT (k := 53) (d := 0) rfl rfl (ri_ref (k := 53) (k' := 51) (d := 0) (f := 0) hT rfl rfl rfl (by decide) (ri_uniq (by decide +kernel))) ?_
    obtain ⟨x14, ax14, rx14, lx14, ux14⟩ := ri_fld (k := 51) (d := 6) (f := 4) hT rfl rfl rfl
    try dsimp only at lx14 ux14
    refine ex_gf oq_X0_valueKnot_23 hT (k := 51) (d := 6) rfl rfl ax14 ?_
    clear lx14 ux14
    have rx14 := (rx14.symm.trans hk : x14.toInt = kc)
    refine ex_ic oq_X0_valueKnot_26 (m := 2) (by decide) (fun x15 hx15 => ?_)
    refine ex_if oq_X0_valueKnot_27 (t := 43) rfl rfl (fun (c16 : ¬ x14.toInt = x15.toInt) => ?_) (fun (c16 : ¬ (¬ x14.toInt = x15.toInt)) => ?_)
    · refine ex_ic oq_X0_valueKnot_43 (m := (-1)) (by decide) (fun x17 hx17 => ?_)
      refine ex_isA oq_X0_valueKnot_44 (fun L18 gL18_1 kL18 => ?_)
      have gL18_0 : cv_get L18 0 = some (cv_r 53) := kL18 0 _ (by decide) (fun _ => rfl) rfl
      refine ex_il oq_X0_valueKnot_45 gL18_1 ?_
      refine ex_ic oq_X0_valueKnot_46 (m := (-1)) (by decide) (fun x19 hx19 => ?_)
      refine ex_if oq_X0_valueKnot_47 (t := 52) rfl rfl (fun (c20 : ¬ x17.toInt = x19.toInt) => ?_) (fun (c20 : ¬ (¬ x17.toInt = x19.toInt)) => ?_)
      · exfalso; omega
      · refine ex_ic oq_X0_valueKnot_50 (m := (-1)) (by decide) (fun x21 hx21 => ?_)
        exact ex_reti oq_X0_valueKnot_51 rfl (hQ x21 h0 hT Fh0 (.inr (.inr ⟨by omega, fun q => by omega, by omega⟩)))
    · refine ex_al oq_X0_valueKnot_30 rfl ?_
      refine ex_gf oq_X0_valueKnot_31 hT (k := 53) (d := 0) rfl rfl (ri_ref (k := 53) (k' := 51) (d := 0) (f := 0) hT rfl rfl rfl (by decide) (ri_uniq (by decide +kernel))) ?_
      obtain ⟨x22, ax22, rx22, lx22, ux22⟩ := ri_fld (k := 51) (d := 6) (f := 6) hT rfl rfl rfl
      try dsimp only at lx22 ux22
      refine ex_gf oq_X0_valueKnot_34 hT (k := 51) (d := 6) rfl rfl ax22 ?_
      clear lx22 ux22
      have rx22 := (rx22.symm.trans hv : x22.toInt = vc)
      refine ex_cs oq_X0_valueKnot_37 (by decide) (as := [cv_i x22]) (stk := []) rfl rfl rfl ⟨rfl, rfl⟩ (R := fun o => ∃ x : Int32, o = (some (cv_i x), h0) ∧ (0 ≤ x.toInt ∧ x.toInt ≤ 9 ∧ znm x22.toInt ∨ x.toInt = -1 ∧ ¬ znm x22.toInt)) (ct_nameOf x22 (fun x q => ⟨x, rfl, q⟩)) (fun o ho => ?_)
      obtain ⟨x23, rfl, dx23⟩ := ho
      show cw_X _ _ _ _ _ [cv_i x23] h0
      rw [show x22.toInt = vc from by omega] at dx23
      refine ex_go oq_X0_valueKnot_40 (t := 44) rfl rfl ?_
      refine ex_isA oq_X0_valueKnot_44 (fun L24 gL24_1 kL24 => ?_)
      have gL24_0 : cv_get L24 0 = some (cv_r 53) := kL24 0 _ (by decide) (fun _ => rfl) rfl
      refine ex_il oq_X0_valueKnot_45 gL24_1 ?_
      refine ex_ic oq_X0_valueKnot_46 (m := (-1)) (by decide) (fun x25 hx25 => ?_)
      refine ex_if oq_X0_valueKnot_47 (t := 52) rfl rfl (fun (c26 : ¬ x23.toInt = x25.toInt) => ?_) (fun (c26 : ¬ (¬ x23.toInt = x25.toInt)) => ?_)
      · refine ex_al oq_X0_valueKnot_52 gL24_0 ?_
        refine ex_dup oq_X0_valueKnot_53 rfl ?_
        obtain ⟨x27, ax27, rx27, lx27, ux27⟩ := ri_fld (k := 53) (d := 0) (f := 4) hT rfl rfl rfl
        try dsimp only at lx27 ux27
        refine ex_gf oq_X0_valueKnot_54 hT (k := 53) (d := 0) rfl rfl ax27 ?_
        clear lx27 ux27
        refine ex_ic oq_X0_valueKnot_57 (m := 1) (by decide) (fun x28 hx28 => ?_)
        refine ex_il oq_X0_valueKnot_58 gL24_1 ?_
        refine ex_any (f := fun x y => some x) oq_X0_valueKnot_59 rfl (fun x29 => ?_)
        refine ex_any (f := fun x y => some x) oq_X0_valueKnot_60 rfl (fun x30 => ?_)
        refine ex_pfi oq_X0_valueKnot_61 hT (k := 53) (d := 0) rfl rfl rfl (cw_i32 _).1 (cw_i32 _).2 (fun h31 Th31 wh31 => ?_)
        have Fh31 : cw_Fr cw_Ds cw_sh kk_X0_valueKnot.2.2.2.2.2.1 h0 h31 := cw_Fr_tr Fh0 (cw_Fr_wrf wh31 (k := 53) (d := 0) rfl rfl (by decide +kernel))
        refine ex_si oq_X0_valueKnot_64 (m := 10000) (by decide) (fun x32 hx32 => ?_)
        refine ex_il oq_X0_valueKnot_67 gL24_1 ?_
        have nb : -1 ≤ x23.toInt ∧ x23.toInt ≤ 9 := by rcases dx23 with e | e <;> omega
        refine ex_add oq_X0_valueKnot_68 (by omega) (fun x33 hx33 => ?_)
        rcases dx23 with dd | dd
        · exact ex_reti oq_X0_valueKnot_69 rfl (hQ x33 h31 Th31 Fh31 (.inr (.inl ⟨by omega, by omega, dd.2.2, by omega, by omega⟩)))
        · exfalso; omega
      · refine ex_ic oq_X0_valueKnot_50 (m := (-1)) (by decide) (fun x34 hx34 => ?_)
        exact ex_reti oq_X0_valueKnot_51 rfl (hQ x34 h0 hT Fh0 (.inr (.inr ⟨by omega, fun q => by rcases dx23 with e | e; omega; exact e.2 q.2, by omega⟩)))
  · refine ex_al oq_X0_valueKnot_11 rfl ?_
    refine ex_gf oq_X0_valueKnot_12 hT (k := 53) (d := 0) rfl rfl (ri_ref (k := 53) (k' := 51) (d := 0) (f := 0) hT rfl rfl rfl (by decide) (ri_uniq (by decide +kernel))) ?_
    obtain ⟨x35, ax35, rx35, lx35, ux35⟩ := ri_fld (k := 51) (d := 6) (f := 6) hT rfl rfl rfl
    try dsimp only at lx35 ux35
    refine ex_gf oq_X0_valueKnot_15 hT (k := 51) (d := 6) rfl rfl ax35 ?_
    clear lx35 ux35
    have rx35 := (rx35.symm.trans hv : x35.toInt = vc)
    exact ex_reti oq_X0_valueKnot_18 rfl (hQ x35 h0 hT Fh0 (.inl ⟨by omega, by omega⟩))
theorem oq_X0_readValue_0 : cw_ho 2 0 (.aload_n 0) 1 0 0 0 := rfl
theorem oq_X0_readValue_1 : cw_ho 2 1 (.getfield 15) 3 0 0 4 := rfl
theorem oq_X0_readValue_4 : cw_ho 2 4 (.getfield 59) 3 6 4 0 := rfl
theorem oq_X0_readValue_7 : cw_ho 2 7 (.bipush 6) 2 0 0 0 := rfl
theorem oq_X0_readValue_9 : cw_ho 2 9 (.if_icmp .ne 8) 3 0 0 0 := rfl
theorem oq_X0_readValue_12 : cw_ho 2 12 (.aload_n 0) 1 0 0 0 := rfl
theorem oq_X0_readValue_13 : cw_ho 2 13 (.invokevirtual 62) 3 3 0 0 := rfl
theorem oq_X0_readValue_16 : cw_ho 2 16 (.ireturn) 1 0 0 0 := rfl
theorem oq_X0_readValue_17 : cw_ho 2 17 (.aload_n 0) 1 0 0 0 := rfl
theorem oq_X0_readValue_18 : cw_ho 2 18 (.getfield 15) 3 0 0 4 := rfl
theorem oq_X0_readValue_21 : cw_ho 2 21 (.bipush 33) 2 0 0 0 := rfl
theorem oq_X0_readValue_23 : cw_ho 2 23 (.invokevirtual 65) 3 83 1 6 := rfl
theorem oq_X0_readValue_26 : cw_ho 2 26 (.ifCond .eq 22) 3 0 0 0 := rfl
theorem oq_X0_readValue_29 : cw_ho 2 29 (.aload_n 0) 1 0 0 0 := rfl
theorem oq_X0_readValue_30 : cw_ho 2 30 (.getfield 37) 3 0 6 2 := rfl
theorem oq_X0_readValue_33 : cw_ho 2 33 (.ifCond .eq 13) 3 0 0 0 := rfl
theorem oq_X0_readValue_36 : cw_ho 2 36 (.aload_n 0) 1 0 0 0 := rfl
theorem oq_X0_readValue_37 : cw_ho 2 37 (.sipush 20002) 3 0 0 0 := rfl
theorem oq_X0_readValue_40 : cw_ho 2 40 (.invokevirtual 69) 3 9 1 0 := rfl
theorem oq_X0_readValue_43 : cw_ho 2 43 (.goto 4) 3 0 0 0 := rfl
theorem oq_X0_readValue_46 : cw_ho 2 46 (.iconst 1) 1 0 0 0 := rfl
theorem oq_X0_readValue_47 : cw_ho 2 47 (.ireturn) 1 0 0 0 := rfl
theorem oq_X0_readValue_48 : cw_ho 2 48 (.aload_n 0) 1 0 0 0 := rfl
theorem oq_X0_readValue_49 : cw_ho 2 49 (.invokevirtual 73) 3 4 0 0 := rfl
theorem oq_X0_readValue_52 : cw_ho 2 52 (.istore_n 1) 1 0 0 0 := rfl
theorem oq_X0_readValue_53 : cw_ho 2 53 (.iload_n 1) 1 0 0 0 := rfl
theorem oq_X0_readValue_54 : cw_ho 2 54 (.iconst (-1)) 1 0 0 0 := rfl
theorem oq_X0_readValue_55 : cw_ho 2 55 (.if_icmp .ne 5) 3 0 0 0 := rfl
theorem oq_X0_readValue_58 : cw_ho 2 58 (.iconst 1) 1 0 0 0 := rfl
theorem oq_X0_readValue_59 : cw_ho 2 59 (.ireturn) 1 0 0 0 := rfl
theorem oq_X0_readValue_60 : cw_ho 2 60 (.aload_n 0) 1 0 0 0 := rfl
theorem oq_X0_readValue_61 : cw_ho 2 61 (.getfield 19) 3 0 7 4 := rfl
theorem oq_X0_readValue_64 : cw_ho 2 64 (.getfield 76) 3 4 3 0 := rfl
theorem oq_X0_readValue_67 : cw_ho 2 67 (.bipush 64) 2 0 0 0 := rfl
theorem oq_X0_readValue_69 : cw_ho 2 69 (.if_icmp .ge 21) 3 0 0 0 := rfl
theorem oq_X0_readValue_72 : cw_ho 2 72 (.aload_n 0) 1 0 0 0 := rfl
theorem oq_X0_readValue_73 : cw_ho 2 73 (.getfield 15) 3 0 0 4 := rfl
theorem oq_X0_readValue_76 : cw_ho 2 76 (.getfield 59) 3 6 4 0 := rfl
theorem oq_X0_readValue_79 : cw_ho 2 79 (.iconst 4) 1 0 0 0 := rfl
theorem oq_X0_readValue_80 : cw_ho 2 80 (.if_icmp .ne 12) 3 0 0 0 := rfl
theorem oq_X0_readValue_83 : cw_ho 2 83 (.iload_n 1) 1 0 0 0 := rfl
theorem oq_X0_readValue_84 : cw_ho 2 84 (.sipush 9999) 3 0 0 0 := rfl
theorem oq_X0_readValue_87 : cw_ho 2 87 (.if_icmp .le 5) 3 0 0 0 := rfl
theorem oq_X0_readValue_90 : cw_ho 2 90 (.iconst 2) 1 0 0 0 := rfl
theorem oq_X0_readValue_91 : cw_ho 2 91 (.ireturn) 1 0 0 0 := rfl
theorem oq_X0_readValue_92 : cw_ho 2 92 (.aload_n 0) 1 0 0 0 := rfl
theorem oq_X0_readValue_93 : cw_ho 2 93 (.getfield 19) 3 0 7 4 := rfl
theorem oq_X0_readValue_96 : cw_ho 2 96 (.dup) 1 0 0 0 := rfl
theorem oq_X0_readValue_97 : cw_ho 2 97 (.getfield 76) 3 4 3 0 := rfl
theorem oq_X0_readValue_100 : cw_ho 2 100 (.iconst 1) 1 0 0 0 := rfl
theorem oq_X0_readValue_101 : cw_ho 2 101 (.iadd) 1 0 0 0 := rfl
theorem oq_X0_readValue_102 : cw_ho 2 102 (.putfield 76) 3 4 3 0 := rfl
theorem oq_X0_readValue_105 : cw_ho 2 105 (.aload_n 0) 1 0 0 0 := rfl
theorem oq_X0_readValue_106 : cw_ho 2 106 (.getfield 19) 3 0 7 4 := rfl
theorem oq_X0_readValue_109 : cw_ho 2 109 (.iload_n 1) 1 0 0 0 := rfl
theorem oq_X0_readValue_110 : cw_ho 2 110 (.invokevirtual 81) 3 58 1 4 := rfl
theorem oq_X0_readValue_113 : cw_ho 2 113 (.aload_n 0) 1 0 0 0 := rfl
theorem oq_X0_readValue_114 : cw_ho 2 114 (.iconst 0) 1 0 0 0 := rfl
theorem oq_X0_readValue_115 : cw_ho 2 115 (.putfield 33) 3 0 5 2 := rfl
theorem oq_X0_readValue_118 : cw_ho 2 118 (.iconst 0) 1 0 0 0 := rfl
theorem oq_X0_readValue_119 : cw_ho 2 119 (.ireturn) 1 0 0 0 := rfl
set_option maxHeartbeats 8000000 in
theorem ct_readValue {h0 : cv_H} {n p : Nat} {b : Nat} (hb4 : cw_sh[b]? = some 4) (hp7 : cw_at h0 53 7 = some (cv_r b)) {st : List Int} {kn m : Int} (hT : cw_T G h0) (hS : zCs t n (.inr p) h0) (hF : zFC b h0 st kn 1 m) (hm01 : 0 ≤ m ∧ m ≤ 1) (hQ : ∀ (x : Int32) h', cw_T G h' → cw_Fr cw_Ds cw_sh kk_X0_readValue.2.2.2.2.2.1 h0 h' → zCs t n (.inr p) h' → zFe t n p (zlf t n st kn m p) x.toInt (fun s => zFC b h' s.1 s.2.1 s.2.2.1 s.2.2.2) → Q (some (cv_i x), h')) : cw_X X 2 Q 0 (cv_ent 0 [cv_r 53]) [] h0 := by
  have Fh0 : cw_Fr cw_Ds cw_sh kk_X0_readValue.2.2.2.2.2.1 h0 h0 := cw_Fr_refl
  have hP7 : ∀ h, cw_Fr cw_Ds cw_sh kk_X0_readValue.2.2.2.2.2.1 h0 h → cw_at h 53 7 = some (cv_r b) := fun h F => (F.2 53 0 7 rfl (by decide +kernel)).trans hp7
  obtain ⟨ho, hrw, hhc, hop, hwv, hmn, hco, hkn, hc0, hk64, hb8⟩ := hF
  obtain ⟨cd, hcd⟩ : ∃ c, ri_at h0 b 2 = c := ⟨_, rfl⟩
  rw [hcd] at hco hc0
  have hzl := zc_len ho
  refine ex_al oq_X0_readValue_0 rfl ?_
  refine ex_gf oq_X0_readValue_1 hT (k := 53) (d := 0) rfl rfl (ri_ref (k := 53) (k' := 51) (d := 0) (f := 0) hT rfl rfl rfl (by decide) (ri_uniq (by decide +kernel))) ?_
  obtain ⟨pnh0, yah0, ybh0, ych0, ydh0, yfh0⟩ := zCs_at hS
  obtain ⟨kch0, ykh0⟩ : ∃ k, ri_at h0 51 4 = k := ⟨_, rfl⟩
  obtain ⟨vch0, yvh0⟩ : ∃ k, ri_at h0 51 6 = k := ⟨_, rfl⟩
  rw [ykh0, yvh0] at ydh0
  replace ydh0 := zhd_i ydh0
  have zlh0 := zx_le (t := t) (n := n) (p := p) (by omega)
  obtain ⟨x101, ax101, rx101, lx101, ux101⟩ := ri_fld (k := 51) (d := 6) (f := 4) hT rfl rfl rfl
  try dsimp only at lx101 ux101
  refine ex_gf oq_X0_readValue_4 hT (k := 51) (d := 6) rfl rfl ax101 ?_
  clear lx101 ux101
  have rx101 := (rx101.symm.trans ykh0 : x101.toInt = kch0)
  refine ex_bi oq_X0_readValue_7 (m := 6) (by decide) (fun x102 hx102 => ?_)
  refine ex_if oq_X0_readValue_9 (t := 17) rfl rfl (fun (c103 : ¬ x101.toInt = x102.toInt) => ?_) (fun (c103 : ¬ (¬ x101.toInt = x102.toInt)) => ?_)
  · have ra := zhd_i (rl_va (show tz_rel _ _ _ _ from ydh0))
    have npp : ¬ (zk t n p = 4 ∧ zw t n p = 40) := fun e => by have := (zhd_e ra).1.mpr e; omega
    refine ex_al oq_X0_readValue_17 rfl ?_
    refine ex_gf oq_X0_readValue_18 hT (k := 53) (d := 0) rfl rfl (ri_ref (k := 53) (k' := 51) (d := 0) (f := 0) hT rfl rfl rfl (by decide) (ri_uniq (by decide +kernel))) ?_
    refine ex_bi oq_X0_readValue_21 (m := 33) (by decide) (fun x104 hx104 => ?_)
    refine ex_cv oq_X0_readValue_23 (by decide) hT (k := 51) (d := 6) (as := [cv_i x104]) (stk := []) rfl rfl rfl rfl rfl rfl ⟨rfl, rfl⟩ (R := fun o => ∃ x : Int32, o = (some (cv_i x), h0) ∧ (x.toInt = 1 ∧ (kch0 = 2 ∧ vch0 = x104.toInt) ∨ x.toInt = 0 ∧ ¬ (kch0 = 2 ∧ vch0 = x104.toInt))) (ct_isWord hT x104 ykh0 yvh0 (fun x q => ⟨x, rfl, q⟩)) (fun o ho => ?_)
    obtain ⟨x105, rfl, dx105⟩ := ho
    show cw_X _ _ _ _ _ [cv_i x105] h0
    rw [hx104] at dx105
    refine ex_if0 oq_X0_readValue_26 (t := 48) rfl rfl (fun (c106 : x105.toInt = 0) => ?_) (fun (c106 : ¬ (x105.toInt = 0)) => ?_)
    · replace dx105 := bit_n dx105 c106
      have np : ¬ (zk t n p = 1 ∧ zw t n p = 23) := fun e => by have := (zhd_e ra).2.1.mpr e; omega
      refine ex_al oq_X0_readValue_48 rfl ?_
      refine ex_cv oq_X0_readValue_49 (by decide) hT (k := 53) (d := 0) (as := []) (stk := []) rfl rfl rfl rfl rfl rfl ⟨rfl, rfl⟩ (R := fun o => ∃ (x : Int32) (hb : cv_H), o = (some (cv_i x), hb) ∧ cw_T G hb ∧ cw_Fr cw_Ds cw_sh kk_X0_valueKnot.2.2.2.2.2.1 h0 hb ∧ (kch0 = 4 ∧ x.toInt = vch0 ∨ ¬ kch0 = 4 ∧ kch0 = 2 ∧ znm vch0 ∧ 10000 ≤ x.toInt ∧ x.toInt ≤ 10009 ∨ ¬ kch0 = 4 ∧ ¬ (kch0 = 2 ∧ znm vch0) ∧ x.toInt = -1)) (ct_valueKnot hT ykh0 yvh0 (fun x hb b1 b2 b3 => ⟨x, hb, rfl, b1, b2, b3⟩)) (fun o ho => ?_)
      obtain ⟨x107, h108, rfl, Th108, Ch108, dx107⟩ := ho
      show cw_X _ _ _ _ _ [cv_i x107] h108
      have Fh108 : cw_Fr cw_Ds cw_sh kk_X0_readValue.2.2.2.2.2.1 h0 h108 := cw_Fr_tr Fh0 (cw_Fr_mono (by decide +kernel) Ch108)
      have eh108_53_2 : ri_at h108 53 2 = (st.length : Int) := (ri_frf Ch108 (k := 53) (d := 0) rfl rfl (by decide +kernel)).trans hhc
      have eh108_53_3 : ri_at h108 53 3 = zc0 st := (ri_frf Ch108 (k := 53) (d := 0) rfl rfl (by decide +kernel)).trans hop
      have eh108_53_5 : ri_at h108 53 5 = (1 : Int) := (ri_frf Ch108 (k := 53) (d := 0) rfl rfl (by decide +kernel)).trans hwv
      have eh108_53_6 : ri_at h108 53 6 = m := (ri_frf Ch108 (k := 53) (d := 0) rfl rfl (by decide +kernel)).trans hmn
      have eh108_b_2 : ri_at h108 b 2 = cd := (ri_frf Ch108 (k := b) (d := 4) hb4 rfl (by decide +kernel)).trans hcd
      have eh108_b_3 : ri_at h108 b 3 = kn := (ri_frf Ch108 (k := b) (d := 4) hb4 rfl (by decide +kernel)).trans hkn
      have Sh108 := zCs_fr Ch108 (by decide +kernel) hS
      have Rh108 := zrow_eq hrw (fun i => ri_frr Ch108 (k := 54) (d := 16) rfl rfl (by decide +kernel))
      have tkh108 : ri_at h108 51 4 = kch0 := (ri_frf Ch108 (k := 51) (d := 6) rfl rfl (by decide +kernel)).trans ykh0
      replace dx107 := zhd_i dx107
      refine ex_isA oq_X0_readValue_52 (fun L109 gL109_1 kL109 => ?_)
      have gL109_0 : cv_get L109 0 = some (cv_r 53) := kL109 0 _ (by decide) (fun _ => rfl) rfl
      refine ex_il oq_X0_readValue_53 gL109_1 ?_
      refine ex_ic oq_X0_readValue_54 (m := (-1)) (by decide) (fun x110 hx110 => ?_)
      refine ex_if oq_X0_readValue_55 (t := 60) rfl rfl (fun (c111 : ¬ x107.toInt = x110.toInt) => ?_) (fun (c111 : ¬ (¬ x107.toInt = x110.toInt)) => ?_)
      · have nn : (zk t n p = 1 ∧ 24 ≤ zw t n p) ∨ zk t n p = 3 := by
          rcases zhd_e dx107 with dd | dd | dd
          · exact .inr ((zhd_e ra).2.2.1.mp dd.1)
          · exact .inl ⟨(zhd_e ra).2.2.2.2.mp dd.2.1, (znm_e (show tz_rel _ _ _ _ from ydh0) dd.2.1).mp dd.2.2.1⟩
          · exact absurd dd.2.2 (by omega)
        have nb : zk t n p = 3 → (9999 < x107.toInt ↔ 9999 < zw t n p) := by
          intro q
          have k4 := (zhd_e ra).2.2.1.mpr q
          have w9 := (zhd_e ra).2.2.2.1 q
          rcases zhd_e dx107 with dd | dd | dd
          · rw [dd.2]; exact w9.2
          · exact absurd k4 dd.1
          · exact absurd k4 dd.1
        refine ex_al oq_X0_readValue_60 gL109_0 ?_
        refine ex_gf oq_X0_readValue_61 Th108 (k := 53) (d := 0) rfl rfl ((hP7 _ Fh108)) ?_
        obtain ⟨x112, ax112, rx112, lx112, ux112⟩ := ri_fld (k := b) (d := 4) (f := 3) Th108 hb4 rfl rfl
        try dsimp only at lx112 ux112
        refine ex_gf oq_X0_readValue_64 Th108 (k := b) (d := 4) hb4 rfl ax112 ?_
        clear lx112 ux112
        have rx112 := (rx112.symm.trans eh108_b_3 : x112.toInt = kn)
        refine ex_bi oq_X0_readValue_67 (m := 64) (by decide) (fun x113 hx113 => ?_)
        refine ex_if oq_X0_readValue_69 (t := 90) rfl rfl (fun (c114 : x113.toInt ≤ x112.toInt) => ?_) (fun (c114 : ¬ (x113.toInt ≤ x112.toInt)) => ?_)
        · refine ex_ic oq_X0_readValue_90 (m := 2) (by decide) (fun x115 hx115 => ?_)
          by_cases big : zk t n p = 3 ∧ 9999 < zw t n p
          · exact ex_reti oq_X0_readValue_91 rfl (hQ x115 h108 Th108 Fh108 Sh108 (.inr ⟨_, by unfold zlf; rw [if_neg npp, if_neg (fun e => np e.1), if_pos nn, if_pos big], by omega, by decide⟩))
          · exact ex_reti oq_X0_readValue_91 rfl (hQ x115 h108 Th108 Fh108 Sh108 (.inr ⟨_, by unfold zlf; rw [if_neg npp, if_neg (fun e => np e.1), if_pos nn, if_neg big, if_pos (by omega)], by omega, by decide⟩))
        · refine ex_al oq_X0_readValue_72 gL109_0 ?_
          refine ex_gf oq_X0_readValue_73 Th108 (k := 53) (d := 0) rfl rfl (ri_ref (k := 53) (k' := 51) (d := 0) (f := 0) Th108 rfl rfl rfl (by decide) (ri_uniq (by decide +kernel))) ?_
          obtain ⟨x116, ax116, rx116, lx116, ux116⟩ := ri_fld (k := 51) (d := 6) (f := 4) Th108 rfl rfl rfl
          try dsimp only at lx116 ux116
          refine ex_gf oq_X0_readValue_76 Th108 (k := 51) (d := 6) rfl rfl ax116 ?_
          clear lx116 ux116
          have rx116 := (rx116.symm.trans tkh108 : x116.toInt = kch0)
          refine ex_ic oq_X0_readValue_79 (m := 4) (by decide) (fun x117 hx117 => ?_)
          refine ex_if oq_X0_readValue_80 (t := 92) rfl rfl (fun (c118 : ¬ x116.toInt = x117.toInt) => ?_) (fun (c118 : ¬ (¬ x116.toInt = x117.toInt)) => ?_)
          · refine ex_al oq_X0_readValue_92 gL109_0 ?_
            refine ex_gf oq_X0_readValue_93 Th108 (k := 53) (d := 0) rfl rfl ((hP7 _ Fh108)) ?_
            refine ex_dup oq_X0_readValue_96 rfl ?_
            obtain ⟨x119, ax119, rx119, lx119, ux119⟩ := ri_fld (k := b) (d := 4) (f := 3) Th108 hb4 rfl rfl
            try dsimp only at lx119 ux119
            refine ex_gf oq_X0_readValue_97 Th108 (k := b) (d := 4) hb4 rfl ax119 ?_
            clear lx119 ux119
            have rx119 := (rx119.symm.trans eh108_b_3 : x119.toInt = kn)
            refine ex_ic oq_X0_readValue_100 (m := 1) (by decide) (fun x120 hx120 => ?_)
            refine ex_add oq_X0_readValue_101 (by omega) (fun x121 hx121 => ?_)
            refine ex_pfi oq_X0_readValue_102 Th108 (k := b) (d := 4) hb4 rfl rfl (cw_i32 _).1 (cw_i32 _).2 (fun h122 Th122 wh122 => ?_)
            have Fh122 : cw_Fr cw_Ds cw_sh kk_X0_readValue.2.2.2.2.2.1 h0 h122 := cw_Fr_tr Fh108 (cw_Fr_wrf wh122 (k := b) (d := 4) hb4 rfl (by decide +kernel))
            have eh122_53_2 : ri_at h122 53 2 = (st.length : Int) := (ri_ne wh122 (.inl (cw_kne (k := 53) (d := 0) (k' := b) (d' := 4) rfl hb4 (by decide)))).trans eh108_53_2
            clear eh108_53_2
            have eh122_53_3 : ri_at h122 53 3 = zc0 st := (ri_ne wh122 (.inl (cw_kne (k := 53) (d := 0) (k' := b) (d' := 4) rfl hb4 (by decide)))).trans eh108_53_3
            clear eh108_53_3
            have eh122_53_5 : ri_at h122 53 5 = (1 : Int) := (ri_ne wh122 (.inl (cw_kne (k := 53) (d := 0) (k' := b) (d' := 4) rfl hb4 (by decide)))).trans eh108_53_5
            clear eh108_53_5
            have eh122_53_6 : ri_at h122 53 6 = m := (ri_ne wh122 (.inl (cw_kne (k := 53) (d := 0) (k' := b) (d' := 4) rfl hb4 (by decide)))).trans eh108_53_6
            clear eh108_53_6
            have eh122_b_2 : ri_at h122 b 2 = cd := (ri_ne wh122 (.inr (by decide))).trans eh108_b_2
            clear eh108_b_2
            have eh122_b_3 : ri_at h122 b 3 = x121.toInt := ri_self wh122
            have Sh122 := zCs_wr (d := 4) (k := b) wh122 hb4 Sh108 (.inl ⟨by decide, by decide⟩)
            have Rh122 := zrow_eq Rh108 (fun i => ri_ne wh122 (.inl (cw_kne (k := 54) (d := 16) (k' := b) (d' := 4) rfl hb4 (by decide))))
            refine ex_al oq_X0_readValue_105 gL109_0 ?_
            refine ex_gf oq_X0_readValue_106 Th122 (k := 53) (d := 0) rfl rfl ((hP7 _ Fh122)) ?_
            refine ex_il oq_X0_readValue_109 gL109_1 ?_
            refine ex_cv oq_X0_readValue_110 (by decide) Th122 (k := b) (d := 4) (as := [cv_i x107]) (stk := []) hb4 rfl rfl rfl rfl rfl ⟨rfl, rfl⟩ (R := fun o => ∃ hb : cv_H, o = (none, hb) ∧ cw_T G hb ∧ cw_Fr cw_Ds cw_sh kk_X4_addCode.2.2.2.2.2.1 h122 hb ∧ ri_at hb b 2 = cd + 1) (ct_addCode Th122 hb4 eh122_b_2 (by omega) (by omega) (fun hb b1 b2 b3 => ⟨hb, rfl, b1, b2, b3⟩)) (fun o ho => ?_)
            obtain ⟨h123, rfl, Th123, Ch123, bh123⟩ := ho
            show cw_X _ _ _ _ _ [] h123
            have Fh123 : cw_Fr cw_Ds cw_sh kk_X0_readValue.2.2.2.2.2.1 h0 h123 := cw_Fr_tr Fh122 (cw_Fr_mono (by decide +kernel) Ch123)
            have eh123_53_2 : ri_at h123 53 2 = (st.length : Int) := (ri_frf Ch123 (k := 53) (d := 0) rfl rfl (by decide +kernel)).trans eh122_53_2
            clear eh122_53_2
            have eh123_53_3 : ri_at h123 53 3 = zc0 st := (ri_frf Ch123 (k := 53) (d := 0) rfl rfl (by decide +kernel)).trans eh122_53_3
            clear eh122_53_3
            have eh123_53_5 : ri_at h123 53 5 = (1 : Int) := (ri_frf Ch123 (k := 53) (d := 0) rfl rfl (by decide +kernel)).trans eh122_53_5
            clear eh122_53_5
            have eh123_53_6 : ri_at h123 53 6 = m := (ri_frf Ch123 (k := 53) (d := 0) rfl rfl (by decide +kernel)).trans eh122_53_6
            clear eh122_53_6
            have eh123_b_3 : ri_at h123 b 3 = x121.toInt := (ri_frf Ch123 (k := b) (d := 4) hb4 rfl (by decide +kernel)).trans eh122_b_3
            clear eh122_b_3
            have Sh123 := zCs_fr Ch123 (by decide +kernel) Sh122
            have Rh123 := zrow_eq Rh122 (fun i => ri_frr Ch123 (k := 54) (d := 16) rfl rfl (by decide +kernel))
            refine ex_al oq_X0_readValue_113 gL109_0 ?_
            refine ex_ic oq_X0_readValue_114 (m := 0) (by decide) (fun x124 hx124 => ?_)
            refine ex_pfb oq_X0_readValue_115 Th123 (k := 53) (d := 0) rfl rfl rfl (by omega) (by omega) (fun h125 Th125 wh125 => ?_)
            have Fh125 : cw_Fr cw_Ds cw_sh kk_X0_readValue.2.2.2.2.2.1 h0 h125 := cw_Fr_tr Fh123 (cw_Fr_wrf wh125 (k := 53) (d := 0) rfl rfl (by decide +kernel))
            have eh125_53_2 : ri_at h125 53 2 = (st.length : Int) := (ri_ne wh125 (.inr (by decide))).trans eh123_53_2
            clear eh123_53_2
            have eh125_53_3 : ri_at h125 53 3 = zc0 st := (ri_ne wh125 (.inr (by decide))).trans eh123_53_3
            clear eh123_53_3
            have eh125_53_5 : ri_at h125 53 5 = x124.toInt := ri_self wh125
            have eh125_53_6 : ri_at h125 53 6 = m := (ri_ne wh125 (.inr (by decide))).trans eh123_53_6
            clear eh123_53_6
            have eh125_b_2 : ri_at h125 b 2 = cd + 1 := (ri_ne wh125 (.inl (cw_kne (k := b) (d := 4) (k' := 53) (d' := 0) hb4 rfl (by decide)))).trans bh123
            have eh125_b_3 : ri_at h125 b 3 = x121.toInt := (ri_ne wh125 (.inl (cw_kne (k := b) (d := 4) (k' := 53) (d' := 0) hb4 rfl (by decide)))).trans eh123_b_3
            clear eh123_b_3
            have Sh125 := zCs_wr (d := 0) (k := 53) wh125 rfl Sh123 (.inl ⟨by decide, by decide⟩)
            have Rh125 := zrow_eq Rh123 (fun i => ri_ne wh125 (.inl (by decide)))
            refine ex_ic oq_X0_readValue_118 (m := 0) (by decide) (fun x126 hx126 => ?_)
            have nbig : ¬ (zk t n p = 3 ∧ 9999 < zw t n p) := by intro e; have e4 := (zhd_e ra).2.2.1.mpr e.1; have e5 := (nb e.1).mpr e.2; omega
            exact ex_reti oq_X0_readValue_119 rfl (hQ x126 h125 Th125 Fh125 Sh125 (.inl ⟨((st, kn + 1, 0, m) : zF4), by unfold zlf; rw [if_neg npp, if_neg (fun e => np e.1), if_pos nn, if_neg nbig, if_neg (by omega)], by omega, show zFC b h125 (st) (kn + 1) (0) (m) from zFC_mk ho Rh125 eh125_53_2 eh125_53_3 (by omega) eh125_53_6 (by omega) (by omega) (by omega) (by omega) hb8⟩))
          · refine ex_il oq_X0_readValue_83 gL109_1 ?_
            refine ex_si oq_X0_readValue_84 (m := 9999) (by decide) (fun x127 hx127 => ?_)
            refine ex_if oq_X0_readValue_87 (t := 92) rfl rfl (fun (c128 : x107.toInt ≤ x127.toInt) => ?_) (fun (c128 : ¬ (x107.toInt ≤ x127.toInt)) => ?_)
            · refine ex_al oq_X0_readValue_92 gL109_0 ?_
              refine ex_gf oq_X0_readValue_93 Th108 (k := 53) (d := 0) rfl rfl ((hP7 _ Fh108)) ?_
              refine ex_dup oq_X0_readValue_96 rfl ?_
              obtain ⟨x129, ax129, rx129, lx129, ux129⟩ := ri_fld (k := b) (d := 4) (f := 3) Th108 hb4 rfl rfl
              try dsimp only at lx129 ux129
              refine ex_gf oq_X0_readValue_97 Th108 (k := b) (d := 4) hb4 rfl ax129 ?_
              clear lx129 ux129
              have rx129 := (rx129.symm.trans eh108_b_3 : x129.toInt = kn)
              refine ex_ic oq_X0_readValue_100 (m := 1) (by decide) (fun x130 hx130 => ?_)
              refine ex_add oq_X0_readValue_101 (by omega) (fun x131 hx131 => ?_)
              refine ex_pfi oq_X0_readValue_102 Th108 (k := b) (d := 4) hb4 rfl rfl (cw_i32 _).1 (cw_i32 _).2 (fun h132 Th132 wh132 => ?_)
              have Fh132 : cw_Fr cw_Ds cw_sh kk_X0_readValue.2.2.2.2.2.1 h0 h132 := cw_Fr_tr Fh108 (cw_Fr_wrf wh132 (k := b) (d := 4) hb4 rfl (by decide +kernel))
              have eh132_53_2 : ri_at h132 53 2 = (st.length : Int) := (ri_ne wh132 (.inl (cw_kne (k := 53) (d := 0) (k' := b) (d' := 4) rfl hb4 (by decide)))).trans eh108_53_2
              clear eh108_53_2
              have eh132_53_3 : ri_at h132 53 3 = zc0 st := (ri_ne wh132 (.inl (cw_kne (k := 53) (d := 0) (k' := b) (d' := 4) rfl hb4 (by decide)))).trans eh108_53_3
              clear eh108_53_3
              have eh132_53_5 : ri_at h132 53 5 = (1 : Int) := (ri_ne wh132 (.inl (cw_kne (k := 53) (d := 0) (k' := b) (d' := 4) rfl hb4 (by decide)))).trans eh108_53_5
              clear eh108_53_5
              have eh132_53_6 : ri_at h132 53 6 = m := (ri_ne wh132 (.inl (cw_kne (k := 53) (d := 0) (k' := b) (d' := 4) rfl hb4 (by decide)))).trans eh108_53_6
              clear eh108_53_6
              have eh132_b_2 : ri_at h132 b 2 = cd := (ri_ne wh132 (.inr (by decide))).trans eh108_b_2
              clear eh108_b_2
              have eh132_b_3 : ri_at h132 b 3 = x131.toInt := ri_self wh132
              have Sh132 := zCs_wr (d := 4) (k := b) wh132 hb4 Sh108 (.inl ⟨by decide, by decide⟩)
              have Rh132 := zrow_eq Rh108 (fun i => ri_ne wh132 (.inl (cw_kne (k := 54) (d := 16) (k' := b) (d' := 4) rfl hb4 (by decide))))
              refine ex_al oq_X0_readValue_105 gL109_0 ?_
              refine ex_gf oq_X0_readValue_106 Th132 (k := 53) (d := 0) rfl rfl ((hP7 _ Fh132)) ?_
              refine ex_il oq_X0_readValue_109 gL109_1 ?_
              refine ex_cv oq_X0_readValue_110 (by decide) Th132 (k := b) (d := 4) (as := [cv_i x107]) (stk := []) hb4 rfl rfl rfl rfl rfl ⟨rfl, rfl⟩ (R := fun o => ∃ hb : cv_H, o = (none, hb) ∧ cw_T G hb ∧ cw_Fr cw_Ds cw_sh kk_X4_addCode.2.2.2.2.2.1 h132 hb ∧ ri_at hb b 2 = cd + 1) (ct_addCode Th132 hb4 eh132_b_2 (by omega) (by omega) (fun hb b1 b2 b3 => ⟨hb, rfl, b1, b2, b3⟩)) (fun o ho => ?_)
              obtain ⟨h133, rfl, Th133, Ch133, bh133⟩ := ho
              show cw_X _ _ _ _ _ [] h133
              have Fh133 : cw_Fr cw_Ds cw_sh kk_X0_readValue.2.2.2.2.2.1 h0 h133 := cw_Fr_tr Fh132 (cw_Fr_mono (by decide +kernel) Ch133)
              have eh133_53_2 : ri_at h133 53 2 = (st.length : Int) := (ri_frf Ch133 (k := 53) (d := 0) rfl rfl (by decide +kernel)).trans eh132_53_2
              clear eh132_53_2
              have eh133_53_3 : ri_at h133 53 3 = zc0 st := (ri_frf Ch133 (k := 53) (d := 0) rfl rfl (by decide +kernel)).trans eh132_53_3
              clear eh132_53_3
              have eh133_53_5 : ri_at h133 53 5 = (1 : Int) := (ri_frf Ch133 (k := 53) (d := 0) rfl rfl (by decide +kernel)).trans eh132_53_5
              clear eh132_53_5
              have eh133_53_6 : ri_at h133 53 6 = m := (ri_frf Ch133 (k := 53) (d := 0) rfl rfl (by decide +kernel)).trans eh132_53_6
              clear eh132_53_6
              have eh133_b_3 : ri_at h133 b 3 = x131.toInt := (ri_frf Ch133 (k := b) (d := 4) hb4 rfl (by decide +kernel)).trans eh132_b_3
              clear eh132_b_3
              have Sh133 := zCs_fr Ch133 (by decide +kernel) Sh132
              have Rh133 := zrow_eq Rh132 (fun i => ri_frr Ch133 (k := 54) (d := 16) rfl rfl (by decide +kernel))
              refine ex_al oq_X0_readValue_113 gL109_0 ?_
              refine ex_ic oq_X0_readValue_114 (m := 0) (by decide) (fun x134 hx134 => ?_)
              refine ex_pfb oq_X0_readValue_115 Th133 (k := 53) (d := 0) rfl rfl rfl (by omega) (by omega) (fun h135 Th135 wh135 => ?_)
              have Fh135 : cw_Fr cw_Ds cw_sh kk_X0_readValue.2.2.2.2.2.1 h0 h135 := cw_Fr_tr Fh133 (cw_Fr_wrf wh135 (k := 53) (d := 0) rfl rfl (by decide +kernel))
              have eh135_53_2 : ri_at h135 53 2 = (st.length : Int) := (ri_ne wh135 (.inr (by decide))).trans eh133_53_2
              clear eh133_53_2
              have eh135_53_3 : ri_at h135 53 3 = zc0 st := (ri_ne wh135 (.inr (by decide))).trans eh133_53_3
              clear eh133_53_3
              have eh135_53_5 : ri_at h135 53 5 = x134.toInt := ri_self wh135
              have eh135_53_6 : ri_at h135 53 6 = m := (ri_ne wh135 (.inr (by decide))).trans eh133_53_6
              clear eh133_53_6
              have eh135_b_2 : ri_at h135 b 2 = cd + 1 := (ri_ne wh135 (.inl (cw_kne (k := b) (d := 4) (k' := 53) (d' := 0) hb4 rfl (by decide)))).trans bh133
              have eh135_b_3 : ri_at h135 b 3 = x131.toInt := (ri_ne wh135 (.inl (cw_kne (k := b) (d := 4) (k' := 53) (d' := 0) hb4 rfl (by decide)))).trans eh133_b_3
              clear eh133_b_3
              have Sh135 := zCs_wr (d := 0) (k := 53) wh135 rfl Sh133 (.inl ⟨by decide, by decide⟩)
              have Rh135 := zrow_eq Rh133 (fun i => ri_ne wh135 (.inl (by decide)))
              refine ex_ic oq_X0_readValue_118 (m := 0) (by decide) (fun x136 hx136 => ?_)
              have nbig : ¬ (zk t n p = 3 ∧ 9999 < zw t n p) := by intro e; have e4 := (zhd_e ra).2.2.1.mpr e.1; have e5 := (nb e.1).mpr e.2; omega
              exact ex_reti oq_X0_readValue_119 rfl (hQ x136 h135 Th135 Fh135 Sh135 (.inl ⟨((st, kn + 1, 0, m) : zF4), by unfold zlf; rw [if_neg npp, if_neg (fun e => np e.1), if_pos nn, if_neg nbig, if_neg (by omega)], by omega, show zFC b h135 (st) (kn + 1) (0) (m) from zFC_mk ho Rh135 eh135_53_2 eh135_53_3 (by omega) eh135_53_6 (by omega) (by omega) (by omega) (by omega) hb8⟩))
            · refine ex_ic oq_X0_readValue_90 (m := 2) (by decide) (fun x137 hx137 => ?_)
              have big : zk t n p = 3 ∧ 9999 < zw t n p := by have e3 := (zhd_e ra).2.2.1.mp (by omega); exact ⟨e3, (nb e3).mp (by omega)⟩
              exact ex_reti oq_X0_readValue_91 rfl (hQ x137 h108 Th108 Fh108 Sh108 (.inr ⟨_, by unfold zlf; rw [if_neg npp, if_neg (fun e => np e.1), if_pos nn, if_pos big], by omega, by decide⟩))
      · have nn : ¬ ((zk t n p = 1 ∧ 24 ≤ zw t n p) ∨ zk t n p = 3) := by
          rcases zhd_e dx107 with dd | dd | dd
          · have := ((zhd_e ra).2.2.2.1 ((zhd_e ra).2.2.1.mp dd.1)).1; omega
          · omega
          · rintro (e | e)
            · exact dd.2.1 ⟨(zhd_e ra).2.2.2.2.mpr e.1, (znm_e (show tz_rel _ _ _ _ from ydh0) ((zhd_e ra).2.2.2.2.mpr e.1)).mpr e.2⟩
            · exact dd.1 ((zhd_e ra).2.2.1.mpr e)
        refine ex_ic oq_X0_readValue_58 (m := 1) (by decide) (fun x138 hx138 => ?_)
        exact ex_reti oq_X0_readValue_59 rfl (hQ x138 h108 Th108 Fh108 Sh108 (.inr ⟨_, by unfold zlf; rw [if_neg npp, if_neg (fun e => np e.1), if_neg nn], by omega, by decide⟩))
    · replace c106 : ¬ x105.toInt = 0 := by omega
      replace dx105 := bit_y dx105 c106
      have p2 : zk t n p = 1 ∧ zw t n p = 23 := (zhd_e ra).2.1.mp (by omega)
      refine ex_al oq_X0_readValue_29 rfl ?_
      obtain ⟨x139, ax139, rx139, lx139, ux139⟩ := ri_fld (k := 53) (d := 0) (f := 6) hT rfl rfl rfl
      try dsimp only at lx139 ux139
      refine ex_gf oq_X0_readValue_30 hT (k := 53) (d := 0) rfl rfl ax139 ?_
      have rx139 := (rx139.symm.trans hmn : x139.toInt = m)
      refine ex_if0 oq_X0_readValue_33 (t := 46) rfl rfl (fun (c140 : x139.toInt = 0) => ?_) (fun (c140 : ¬ (x139.toInt = 0)) => ?_)
      · refine ex_ic oq_X0_readValue_46 (m := 1) (by decide) (fun x141 hx141 => ?_)
        exact ex_reti oq_X0_readValue_47 rfl (hQ x141 h0 hT Fh0 hS (.inr ⟨_, by unfold zlf; rw [if_neg npp, if_neg (fun e => absurd e.2 (by omega)), if_neg (by omega)], by omega, by decide⟩))
      · replace c140 : ¬ x139.toInt = 0 := by omega
        refine ex_al oq_X0_readValue_36 rfl ?_
        refine ex_si oq_X0_readValue_37 (m := 20002) (by decide) (fun x142 hx142 => ?_)
        refine ex_cv oq_X0_readValue_40 (by decide) hT (k := 53) (d := 0) (as := [cv_i x142]) (stk := []) rfl rfl rfl rfl rfl rfl ⟨rfl, rfl⟩ (R := fun o => ∃ (x : Int32) (hb : cv_H), o = (some (cv_i x), hb) ∧ cw_T G hb ∧ cw_Fr cw_Ds cw_sh kk_X0_holdKnot.2.2.2.2.2.1 h0 hb ∧ (x.toInt = 2 ∧ 64 ≤ kn ∨ x.toInt = 0 ∧ kn < 64 ∧ zrow hb 54 ((2 :: st).map zsi) ∧ ri_at hb 53 2 = (st).length + 1 ∧ ri_at hb b 3 = kn + 1)) (ct_holdKnot hb4 (hP7 _ Fh0) (a := 2) (st := st) hT hrw hhc hkn (by omega) (by omega) (by rw [hx142]; rfl) (fun x hb b1 b2 b3 => ⟨x, hb, rfl, b1, b2, b3⟩)) (fun o ho => ?_)
        obtain ⟨x143, h144, rfl, Th144, Ch144, dx143⟩ := ho
        show cw_X _ _ _ _ _ [cv_i x143] h144
        have Fh144 : cw_Fr cw_Ds cw_sh kk_X0_readValue.2.2.2.2.2.1 h0 h144 := cw_Fr_tr Fh0 (cw_Fr_mono (by decide +kernel) Ch144)
        have eh144_53_3 : ri_at h144 53 3 = zc0 st := (ri_frf Ch144 (k := 53) (d := 0) rfl rfl (by decide +kernel)).trans hop
        have eh144_53_5 : ri_at h144 53 5 = (1 : Int) := (ri_frf Ch144 (k := 53) (d := 0) rfl rfl (by decide +kernel)).trans hwv
        have eh144_53_6 : ri_at h144 53 6 = m := (ri_frf Ch144 (k := 53) (d := 0) rfl rfl (by decide +kernel)).trans hmn
        have eh144_b_2 : ri_at h144 b 2 = cd := (ri_frf Ch144 (k := b) (d := 4) hb4 rfl (by decide +kernel)).trans hcd
        have Sh144 := zCs_fr Ch144 (by decide +kernel) hS
        refine ex_go oq_X0_readValue_43 (t := 47) rfl rfl ?_
        have p3 : (zk t n p = 1 ∧ zw t n p = 23) ∧ m = 1 := ⟨p2, by omega⟩
        rcases dx143 with dd | ⟨d1, d2, d3, d4, d5⟩
        · exact ex_reti oq_X0_readValue_47 rfl (hQ x143 h144 Th144 Fh144 Sh144 (.inr ⟨_, by unfold zlf; rw [if_neg npp, if_pos p3, if_pos (by omega)], by omega, by decide⟩))
        · have z0 := zc_2 (st := st)
          exact ex_reti oq_X0_readValue_47 rfl (hQ x143 h144 Th144 Fh144 Sh144 (.inl ⟨((2 :: st, kn + 1, 1, m) : zF4), by unfold zlf; rw [if_neg npp, if_pos p3, if_neg (by omega)], by omega, show zFC b h144 (2 :: st) (kn + 1) (1) (m) from zFC_mk ⟨.inr (.inl rfl), ho⟩ d3 (by rw [List.length_cons]; omega) (by omega) eh144_53_5 eh144_53_6 (by omega) d5 (by omega) (by omega) (by omega)⟩))
  · have ra := zhd_i (rl_va (show tz_rel _ _ _ _ from ydh0))
    have pp : zk t n p = 4 ∧ zw t n p = 40 := (zhd_e ra).1.mp (by omega)
    refine ex_al oq_X0_readValue_12 rfl ?_
    refine ex_cv oq_X0_readValue_13 (by decide) hT (k := 53) (d := 0) (as := []) (stk := []) rfl rfl rfl rfl rfl rfl ⟨rfl, rfl⟩ (R := fun o => ∃ (x : Int32) (hb : cv_H), o = (some (cv_i x), hb) ∧ cw_T G hb ∧ cw_Fr cw_Ds cw_sh kk_X0_openParen.2.2.2.2.2.1 h0 hb ∧ (x.toInt = 2 ∧ 8 ≤ zc0 st ∨ x.toInt = 0 ∧ zc0 st < 8 ∧ zrow hb 54 ((0 :: st).map zsi) ∧ ri_at hb 53 2 = st.length + 1 ∧ ri_at hb 53 3 = zc0 st + 1 ∧ ri_at hb 53 6 = 1)) (ct_openParen (st := st) hT hrw hhc hop (by omega) (by omega) (fun x hb b1 b2 b3 => ⟨x, hb, rfl, b1, b2, b3⟩)) (fun o ho => ?_)
    obtain ⟨x145, h146, rfl, Th146, Ch146, dx145⟩ := ho
    show cw_X _ _ _ _ _ [cv_i x145] h146
    have Fh146 : cw_Fr cw_Ds cw_sh kk_X0_readValue.2.2.2.2.2.1 h0 h146 := cw_Fr_tr Fh0 (cw_Fr_mono (by decide +kernel) Ch146)
    have eh146_53_5 : ri_at h146 53 5 = (1 : Int) := (ri_frf Ch146 (k := 53) (d := 0) rfl rfl (by decide +kernel)).trans hwv
    have eh146_b_2 : ri_at h146 b 2 = cd := (ri_frf Ch146 (k := b) (d := 4) hb4 rfl (by decide +kernel)).trans hcd
    have eh146_b_3 : ri_at h146 b 3 = kn := (ri_frf Ch146 (k := b) (d := 4) hb4 rfl (by decide +kernel)).trans hkn
    have Sh146 := zCs_fr Ch146 (by decide +kernel) hS
    rcases dx145 with dd | ⟨d1, d2, d3, d4, d5, d6⟩
    · exact ex_reti oq_X0_readValue_16 rfl (hQ x145 h146 Th146 Fh146 Sh146 (.inr ⟨_, by unfold zlf; rw [if_pos pp, if_pos (by omega)], by omega, by decide⟩))
    · have z0 := zc_0 (st := st)
      exact ex_reti oq_X0_readValue_16 rfl (hQ x145 h146 Th146 Fh146 Sh146 (.inl ⟨((0 :: st, kn, 1, 1) : zF4), by unfold zlf; rw [if_pos pp, if_neg (by omega)], by omega, show zFC b h146 (0 :: st) (kn) (1) (1) from zFC_mk ⟨.inl rfl, ho⟩ d3 (by rw [List.length_cons]; omega) (by omega) eh146_53_5 d6 (by omega) eh146_b_3 (by omega) hk64 (by omega)⟩))
end TZ
