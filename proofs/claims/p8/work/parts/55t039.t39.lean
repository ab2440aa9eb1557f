/-! ===== text of the reference: what is kept ===== -/
def zKs (s : zSg) (h : cv_H) : Prop := (ri_at h 111 15 = s.2.2.1 ∧ (ri_at h 111 12 = s.2.2.2.1.length ∧ zNm h 118 0 s.2.2.2.1) ∧ (ri_at h 111 13 = s.2.2.2.2.1.length ∧ zNm h 121 0 s.2.2.2.2.1) ∧ (ri_at h 111 14 = s.2.2.2.2.2.length ∧ zNm h 123 0 s.2.2.2.2.2)) ∧ ri_at h 111 43 = 0 ∧ ri_at h 111 66 = 0 ∧ ri_at h 111 52 = 0 ∧ ri_at h 111 53 = -1 ∧ ri_at h 111 50 = 0
def zTw (S : (Int × Nat) ⊕ (zSg × Int)) (F : Nat → Int) (h : cv_H) : Prop := match S with
  | .inl _ => ∀ i, i ∈ ([43, 50, 52, 53, 66] : List Nat) → ri_at h 111 i = F i
  | .inr (s, _) => zKs s h
theorem zK5 {m : Nat} {F : Nat → Int} {h h' : cv_H} (C : cw_Fr cw_Ds cw_sh m h h') (q : ([43, 50, 52, 53, 66] : List Nat).all (fun i => !cw_bit m 12 i) = true) (hk : ∀ i, i ∈ ([43, 50, 52, 53, 66] : List Nat) → ri_at h 111 i = F i) : ∀ i, i ∈ ([43, 50, 52, 53, 66] : List Nat) → ri_at h' 111 i = F i := fun i hi => (ri_frf C (k := 111) (d := 12) rfl rfl (by simpa using List.all_eq_true.mp q i hi)).trans (hk i hi)
theorem zKs_k {s : zSg} {h h' : cv_H} (hs : zSR h s) (hg : s.2.2.2.1.length ≤ 4) (hw : s.2.2.2.2.1.length ≤ 6) (hc : s.2.2.2.2.2.length ≤ 6) (a : ri_at h' 111 43 = 0 ∧ ri_at h' 111 66 = 0 ∧ ri_at h' 111 52 = 0 ∧ ri_at h' 111 53 = -1 ∧ ri_at h' 111 50 = 0) (k : zKq h h') : zKs s h' := by
  obtain ⟨s1, s2, s3, s4, s5, s6, s7, s8, s9, s10⟩ := hs
  obtain ⟨k1, k2, k3, k4, k5, k6, k7⟩ := k
  refine ⟨⟨k4.trans s3, ⟨k1.trans s5, fun i hi => ?_⟩, ⟨k2.trans s6, fun i hi => ?_⟩, ⟨k3.trans s7, fun i hi => ?_⟩⟩, a⟩
  · rw [Nat.zero_add, k5 i (by omega)]; exact s8 i hi
  · rw [Nat.zero_add, k6 i (by omega)]; exact s9 i hi
  · rw [Nat.zero_add, k7 i (by omega)]; exact s10 i hi
section TZ
variable {G : Int} {X : cv_X} {Q : cv_O → Prop} {t : Nat → Int}
theorem rt_tx2 {h0 : cv_H} {n : Nat} (hX : cw_Xok X) (ht : ∀ i, i < n → t i = ri_at h0 112 i) (hn9 : n ≤ 900) (hwr : ∀ i, i < 177 → ri_at h0 113 i = pp_words.getD i 0) (hw5 : ∀ p, p ≤ n → zk t n p = 5 → 0 ≤ zw t n p ∧ zw t n p ≤ 5) {S : (Int × Nat) ⊕ (zSg × Int)} {F : Nat → Int} (hQ : ∀ (x : Int32) (G' : Int) h', cw_T G' h' → cw_PP G' h' → cw_Fr cw_Ds cw_sh mk_tl h0 h' → zTe S x h' → zTw S F h' → Q (some (cv_i x), h')) :
    ∀ (f : Nat) (s : zSg) (p : Nat) (k : Int32) (h : cv_H), n - p < f → p ≤ n → ztx t n f k.toInt s p = S → cw_T G h → cw_PP G h → rd_I h → zR t n p h → zSR h s → ri_at h 111 4 = 0 → ri_at h 111 5 = -1 → (∀ i, i ∈ ([43, 50, 52, 53, 66] : List Nat) → ri_at h 111 i = F i) → cw_Fr cw_Ds cw_sh mk_tl h0 h → ∀ L : cv_L, cv_get L 0 = some (cv_r 111) → cv_get L 2 = some (cv_i k) → 0 ≤ k.toInt → k.toInt + f ≤ 2000 → cw_X X 188 Q 55 L [] h := by
  intro f
  induction f with
  | zero => intro s p k h hf; omega
  | succ f ih =>
    intro s p k h hf hpn hst Th Ph hI hz hs hf4 hf5 hkp Fh L q0 q2 k0 k1
    obtain ⟨z1, z2, z3, z4, -⟩ := id hz
    refine ex_al oq_X12_text_55 q0 ?_
    obtain ⟨x1, ax1, rx1, lx1, ux1⟩ := fi_kind Th
    refine ex_gf oq_X12_text_56 Th (k := 111) (d := 12) rfl rfl ax1 ?_
    refine ex_if0 oq_X12_text_59 (t := 77) rfl rfl (fun (c2 : x1.toInt = 0) => ?_) (fun (c2 : ¬ (x1.toInt = 0)) => ?_)
    · refine ex_al oq_X12_text_77 q0 ?_
      refine ex_cv oq_X12_text_78 (by decide) Th (k := 111) (d := 12) (as := []) (stk := []) rfl rfl rfl rfl rfl rfl ⟨rfl, rfl⟩ (R := fun o => ∃ (G' : Int) (hb : cv_H), o = (none, hb) ∧ cw_T G' hb ∧ cw_PP G' hb ∧ cw_Fr cw_Ds cw_sh mk_kt h hb ∧ (ri_at hb 111 43 = 0 ∧ ri_at hb 111 66 = 0 ∧ ri_at hb 111 52 = 0 ∧ ri_at hb 111 53 = -1 ∧ ri_at hb 111 50 = 0) ∧ zKq h hb) (rt_keepText (cw_Xok_no2 hX) Th Ph hI (fun G' hb a1 a2 a3 a4 a5 => ⟨G', hb, rfl, a1, a2, a3, a4, a5⟩)) (fun o ho => ?_)
      obtain ⟨G2, h3, rfl, Th3, Ph3, Ch3, Ah3, Kh3⟩ := ho
      show cw_X _ _ _ _ _ [] h3
      have Fh3 : cw_Fr cw_Ds cw_sh mk_tl h0 h3 := cw_Fr_tr Fh (cw_Fr_mono (by decide +kernel) Ch3)
      refine ex_il oq_X12_text_81 q2 ?_
      refine ex_reti oq_X12_text_82 rfl (hQ k _ h3 Th3 Ph3 Fh3 ?_ ?_)
      · rw [← hst, ztx_s, if_pos (by omega)]
        exact ⟨rfl, (ri_frf Ch3 (k := 111) (i := 4) rfl rfl (by decide +kernel)).trans hf4, (ri_frf Ch3 (k := 111) (i := 5) rfl rfl (by decide +kernel)).trans hf5⟩
      · rw [← hst, ztx_s, if_pos (by omega)]
        refine zKs_k hs ?_ ?_ ?_ Ah3 Kh3
        · obtain ⟨x, -, r1, r2, r3⟩ := fi_gatesRead Th
          have := hs.2.2.2.2.1
          omega
        · obtain ⟨x, -, r1, r2, r3⟩ := fi_worksRead Th
          have := hs.2.2.2.2.2.1
          omega
        · obtain ⟨x, -, r1, r2, r3⟩ := fi_causesRead Th
          have := hs.2.2.2.2.2.2.1
          omega
    · refine ex_al oq_X12_text_62 q0 ?_
      have pq : cw_PQ G (ri_at h 111 7) (ri_at h 111 8) (n : Int) h := ⟨Ph, Int.le_refl _, fun _ => .inl rfl, z1⟩
      refine ex_cv oq_X12_text_63 (by decide) Th (k := 111) (d := 12) (as := []) (stk := []) rfl rfl rfl rfl rfl rfl ⟨rfl, rfl⟩ (R := fun o => (∃ (x : Int32) (hb : cv_H), o = (some (cv_i x), hb) ∧ cw_T G hb ∧ cw_PQ G (ri_at h 111 7) (ri_at h 111 8) n hb ∧ cw_Fr cw_Ds cw_sh mk_ln h hb ∧ (x.toInt = 0 ∨ x.toInt = 1 ∧ rd_I hb ∧ (ri_at hb 111 8 = 0 ∨ ri_at h 111 7 < ri_at hb 111 7))) ∧ ∃ (x : Int32) (hb : cv_H), o = (some (cv_i x), hb) ∧ zRe t n h hb x (zln t n s p) (fun s' => zSR hb s')) (cw_X_and (sp_lineRead (cw_Xok_no2 hX) Th pq hI (fun x h a0 a1 a2 a3 => ⟨x, h, rfl, a0, a1, a2, a3⟩)) (rt_lineRead (fun i hi => by rw [ht i hi]; exact (ri_frr Fh (k := 112) (d := 51) rfl rfl (by decide +kernel)).symm) hn9 Th (fun i hi => by rw [← hwr i hi]; exact ri_frr Fh (k := 113) (d := 52) rfl rfl (by decide +kernel)) hpn hz hw5 hs (fun x hb b1 b2 b3 => ⟨x, hb, rfl, b3⟩))) (fun o ho => ?_)
      obtain ⟨⟨x5, h4, rfl, Th4, Zh4, Ch4, dx5⟩, x6, h6, he, d5⟩ := ho
      cases he
      show cw_X _ _ _ _ _ [cv_i x5] h4
      have Fh4 : cw_Fr cw_Ds cw_sh mk_tl h0 h4 := cw_Fr_tr Fh (cw_Fr_mono (by decide +kernel) Ch4)
      have Ph4 := Zh4.1
      refine ex_if0 oq_X12_text_66 (t := 71) rfl rfl (fun (c6 : ¬ x5.toInt = 0) => ?_) (fun (c6 : ¬ (¬ x5.toInt = 0)) => ?_)
      · obtain ⟨s', q, e1, e2, e3, e4, e5, e6, e7⟩ := zRe_yes d5 c6
        have hge := zln_ge hpn e1
        refine ex_incA oq_X12_text_71 (v := k) (m := 1) q2 (by decide) (by omega) (fun L8 x7 hx7 gL8_2 kL8 => ?_)
        have gL8_0 : cv_get L8 0 = some (cv_r 111) := kL8 0 _ (by decide) (fun q => absurd q (by decide)) q0
        refine ex_go oq_X12_text_74 (t := 55) rfl rfl ?_
        exact ih s' q x7 h4 (by omega) e2 (by rw [← hst, ztx_s, if_neg (by omega), zb2_r e1, hx7]) Th4 Ph4 (dx5.resolve_left (by omega)).2.1 e4 e7 (by omega) (by omega) (zK5 Ch4 (by decide +kernel) hkp) Fh4 L8 gL8_0 gL8_2 (by omega) (by omega)
      · obtain ⟨fc, fa, e1, e2, e3, e4, e5⟩ := zRe_no d5 (by omega)
        refine ex_ic oq_X12_text_69 (m := (-1)) (by decide) (fun x9 hx9 => ?_)
        refine ex_reti oq_X12_text_70 rfl (hQ x9 _ h4 Th4 Ph4 Fh4 ?_ ?_)
        · rw [← hst, ztx_s, if_neg (by omega), zb2_l e1]
          exact ⟨hx9, e3, e4⟩
        · rw [← hst, ztx_s, if_neg (by omega), zb2_l e1]
          exact zK5 Ch4 (by decide +kernel) hkp
set_option maxHeartbeats 4000000 in
theorem rt_text2 {h0 : cv_H} (hX : cw_Xok X) (hT : cw_T G h0) (hP : cw_PP G h0) (n : Int32) (ht : ∀ i : Nat, (i : Int) < ri_at h0 111 1 → t i = ri_at h0 112 i) (hwr : ∀ i, i < 177 → ri_at h0 113 i = pp_words.getD i 0) (hw5 : ∀ p, p ≤ n.toInt.toNat → zk t n.toInt.toNat p = 5 → 0 ≤ zw t n.toInt.toNat p ∧ zw t n.toInt.toNat p ≤ 5) (hQ : ∀ (x : Int32) (G' : Int) h', cw_T G' h' → cw_PP G' h' → cw_Fr cw_Ds cw_sh mk_tx h0 h' → ((n.toInt < 0 ∨ ri_at h0 111 1 < n.toInt) ∧ ri_at h' 111 1 = ri_at h0 111 1 ∧ x.toInt = -2 ∧ ri_at h' 111 4 = ri_at h0 111 4 ∧ ri_at h' 111 5 = ri_at h0 111 5 ∧ (∀ i, i ∈ ([43, 50, 52, 53, 66] : List Nat) → ri_at h' 111 i = ri_at h0 111 i) ∨ 0 ≤ n.toInt ∧ n.toInt ≤ ri_at h0 111 1 ∧ ri_at h' 111 1 = 0 ∧ zTe (ztx t n.toInt.toNat 901 0 (0, (fun _ => 0), 0, [], [], []) 0) x h' ∧ zTw (ztx t n.toInt.toNat 901 0 (0, (fun _ => 0), 0, [], [], []) 0) (fun i => ri_at h0 111 i) h') → Q (some (cv_i x), h')) : cw_X X 188 Q 0 (cv_ent 0 [cv_r 111, cv_i n]) [] h0 := by
  have Fh0 : cw_Fr cw_Ds cw_sh mk_w0 h0 h0 := cw_Fr_refl
  refine ex_al oq_X12_text_0 rfl ?_
  refine ex_ic oq_X12_text_1 (m := 0) (by decide) (fun x201 hx201 => ?_)
  refine ex_pfi oq_X12_text_2 hT (k := 111) (d := 12) rfl rfl rfl (cw_i32 _).1 (cw_i32 _).2 (fun h202 Th202 wh202 => ?_)
  have Fh202 : cw_Fr cw_Ds cw_sh mk_w0 h0 h202 := cw_Fr_tr Fh0 (cw_Fr_wrf wh202 (k := 111) (d := 12) rfl rfl (by decide +kernel))
  have eh202_1 : ri_at h202 111 1 = ri_at h0 111 1 := ri_ne wh202 (by decide)
  have eh202_4 : ri_at h202 111 4 = ri_at h0 111 4 := ri_ne wh202 (by decide)
  have eh202_5 : ri_at h202 111 5 = ri_at h0 111 5 := ri_ne wh202 (by decide)
  have eh202_6 : ri_at h202 111 6 = ri_at h0 111 6 := ri_ne wh202 (by decide)
  have eh202_7 : ri_at h202 111 7 = ri_at h0 111 7 := ri_ne wh202 (by decide)
  have eh202_8 : ri_at h202 111 8 = ri_at h0 111 8 := ri_ne wh202 (by decide)
  have eh202_9 : ri_at h202 111 9 = ri_at h0 111 9 := ri_ne wh202 (by decide)
  refine ex_il oq_X12_text_5 rfl ?_
  refine ex_if0 oq_X12_text_6 (t := 17) rfl rfl (fun (c203 : n.toInt < 0) => ?_) (fun (c203 : ¬ (n.toInt < 0)) => ?_)
  · refine ex_bi oq_X12_text_17 (m := (-2)) (by decide) (fun x204 hx204 => ?_)
    exact ex_reti oq_X12_text_19 rfl (hQ x204 G h202 Th202 (pp_fr1 (by decide +kernel) hP Fh202 ⟨by have := hP.2.1.1; omega, by intro q; have := hP.2.1.2.1; omega, by intro q; have := hP.2.1.2.2; omega⟩) (cw_Fr_mono (by decide +kernel) Fh202) (.inl ⟨by omega, by omega, by omega, by omega, by omega, fun i hi => ri_frf Fh202 (k := 111) (d := 12) rfl rfl (by revert i; decide +kernel)⟩))
  · refine ex_il oq_X12_text_9 rfl ?_
    refine ex_al oq_X12_text_10 rfl ?_
    obtain ⟨x205, ax205, rx205, lx205, ux205⟩ := fi_tapeSize Th202
    refine ex_gf oq_X12_text_11 Th202 (k := 111) (d := 12) rfl rfl ax205 ?_
    refine ex_if oq_X12_text_14 (t := 20) rfl rfl (fun (c206 : n.toInt ≤ x205.toInt) => ?_) (fun (c206 : ¬ (n.toInt ≤ x205.toInt)) => ?_)
    · refine ex_al oq_X12_text_20 rfl ?_
      refine ex_il oq_X12_text_21 rfl ?_
      refine ex_pfi oq_X12_text_22 Th202 (k := 111) (d := 12) rfl rfl rfl (by omega) (by omega) (fun h207 Th207 wh207 => ?_)
      have Fh207 : cw_Fr cw_Ds cw_sh mk_w0 h0 h207 := cw_Fr_tr Fh202 (cw_Fr_wrf wh207 (k := 111) (d := 12) rfl rfl (by decide +kernel))
      have eh207_1 : ri_at h207 111 1 = ri_at h202 111 1 := ri_ne wh207 (by decide)
      have eh207_4 : ri_at h207 111 4 = ri_at h202 111 4 := ri_ne wh207 (by decide)
      have eh207_5 : ri_at h207 111 5 = ri_at h202 111 5 := ri_ne wh207 (by decide)
      have eh207_6 : ri_at h207 111 6 = n.toInt := ri_self wh207
      have eh207_7 : ri_at h207 111 7 = ri_at h202 111 7 := ri_ne wh207 (by decide)
      have eh207_8 : ri_at h207 111 8 = ri_at h202 111 8 := ri_ne wh207 (by decide)
      have eh207_9 : ri_at h207 111 9 = ri_at h202 111 9 := ri_ne wh207 (by decide)
      refine ex_al oq_X12_text_25 rfl ?_
      refine ex_ic oq_X12_text_26 (m := 0) (by decide) (fun x208 hx208 => ?_)
      refine ex_pfi oq_X12_text_27 Th207 (k := 111) (d := 12) rfl rfl rfl (by omega) (by omega) (fun h209 Th209 wh209 => ?_)
      have Fh209 : cw_Fr cw_Ds cw_sh mk_w0 h0 h209 := cw_Fr_tr Fh207 (cw_Fr_wrf wh209 (k := 111) (d := 12) rfl rfl (by decide +kernel))
      have eh209_1 : ri_at h209 111 1 = x208.toInt := ri_self wh209
      have eh209_4 : ri_at h209 111 4 = ri_at h207 111 4 := ri_ne wh209 (by decide)
      have eh209_5 : ri_at h209 111 5 = ri_at h207 111 5 := ri_ne wh209 (by decide)
      have eh209_6 : ri_at h209 111 6 = ri_at h207 111 6 := ri_ne wh209 (by decide)
      have eh209_7 : ri_at h209 111 7 = ri_at h207 111 7 := ri_ne wh209 (by decide)
      have eh209_8 : ri_at h209 111 8 = ri_at h207 111 8 := ri_ne wh209 (by decide)
      have eh209_9 : ri_at h209 111 9 = ri_at h207 111 9 := ri_ne wh209 (by decide)
      refine ex_al oq_X12_text_30 rfl ?_
      refine ex_ic oq_X12_text_31 (m := 0) (by decide) (fun x210 hx210 => ?_)
      refine ex_pfi oq_X12_text_32 Th209 (k := 111) (d := 12) rfl rfl rfl (cw_i32 _).1 (cw_i32 _).2 (fun h211 Th211 wh211 => ?_)
      have Fh211 : cw_Fr cw_Ds cw_sh mk_w0 h0 h211 := cw_Fr_tr Fh209 (cw_Fr_wrf wh211 (k := 111) (d := 12) rfl rfl (by decide +kernel))
      have eh211_1 : ri_at h211 111 1 = ri_at h209 111 1 := ri_ne wh211 (by decide)
      have eh211_4 : ri_at h211 111 4 = x210.toInt := ri_self wh211
      have eh211_5 : ri_at h211 111 5 = ri_at h209 111 5 := ri_ne wh211 (by decide)
      have eh211_6 : ri_at h211 111 6 = ri_at h209 111 6 := ri_ne wh211 (by decide)
      have eh211_7 : ri_at h211 111 7 = ri_at h209 111 7 := ri_ne wh211 (by decide)
      have eh211_8 : ri_at h211 111 8 = ri_at h209 111 8 := ri_ne wh211 (by decide)
      have eh211_9 : ri_at h211 111 9 = ri_at h209 111 9 := ri_ne wh211 (by decide)
      refine ex_al oq_X12_text_35 rfl ?_
      refine ex_ic oq_X12_text_36 (m := (-1)) (by decide) (fun x212 hx212 => ?_)
      refine ex_pfi oq_X12_text_37 Th211 (k := 111) (d := 12) rfl rfl rfl (cw_i32 _).1 (cw_i32 _).2 (fun h213 Th213 wh213 => ?_)
      have Fh213 : cw_Fr cw_Ds cw_sh mk_w0 h0 h213 := cw_Fr_tr Fh211 (cw_Fr_wrf wh213 (k := 111) (d := 12) rfl rfl (by decide +kernel))
      have eh213_1 : ri_at h213 111 1 = ri_at h211 111 1 := ri_ne wh213 (by decide)
      have eh213_4 : ri_at h213 111 4 = ri_at h211 111 4 := ri_ne wh213 (by decide)
      have eh213_5 : ri_at h213 111 5 = x212.toInt := ri_self wh213
      have eh213_6 : ri_at h213 111 6 = ri_at h211 111 6 := ri_ne wh213 (by decide)
      have eh213_7 : ri_at h213 111 7 = ri_at h211 111 7 := ri_ne wh213 (by decide)
      have eh213_8 : ri_at h213 111 8 = ri_at h211 111 8 := ri_ne wh213 (by decide)
      have eh213_9 : ri_at h213 111 9 = ri_at h211 111 9 := ri_ne wh213 (by decide)
      refine ex_al oq_X12_text_40 rfl ?_
      refine ex_ic oq_X12_text_41 (m := 0) (by decide) (fun x214 hx214 => ?_)
      refine ex_pfi oq_X12_text_42 Th213 (k := 111) (d := 12) rfl rfl rfl (by omega) (by omega) (fun h215 Th215 wh215 => ?_)
      have Fh215 : cw_Fr cw_Ds cw_sh mk_w0 h0 h215 := cw_Fr_tr Fh213 (cw_Fr_wrf wh215 (k := 111) (d := 12) rfl rfl (by decide +kernel))
      have eh215_1 : ri_at h215 111 1 = ri_at h213 111 1 := ri_ne wh215 (by decide)
      have eh215_4 : ri_at h215 111 4 = ri_at h213 111 4 := ri_ne wh215 (by decide)
      have eh215_5 : ri_at h215 111 5 = ri_at h213 111 5 := ri_ne wh215 (by decide)
      have eh215_6 : ri_at h215 111 6 = ri_at h213 111 6 := ri_ne wh215 (by decide)
      have eh215_7 : ri_at h215 111 7 = x214.toInt := ri_self wh215
      have eh215_8 : ri_at h215 111 8 = ri_at h213 111 8 := ri_ne wh215 (by decide)
      have eh215_9 : ri_at h215 111 9 = ri_at h213 111 9 := ri_ne wh215 (by decide)
      refine ex_al oq_X12_text_45 rfl ?_
      have Ph215 : cw_PP G h215 := pp_fr1 (by decide +kernel) hP Fh215 ⟨by omega, by intro q; have := hP.2.1.2.1; omega, by intro q; have := hP.2.1.2.2; omega⟩
      have pq : cw_PQ G 0 (ri_at h215 111 8) n.toInt h215 := ⟨Ph215, by omega, fun _ => .inl rfl, by omega⟩
      have Fw := cw_Fr_mono (m' := mk_tx) (by decide +kernel) Fh215
      refine ex_cv oq_X12_text_46 (by decide) Th215 (k := 111) (d := 12) (as := []) (stk := []) rfl rfl rfl rfl rfl rfl ⟨rfl, rfl⟩ (R := fun o => (∃ hb : cv_H, o = (none, hb) ∧ cw_T G hb ∧ cw_PQ G 0 (ri_at h215 111 8) n.toInt hb ∧ cw_Fr cw_Ds cw_sh mk_pl h215 hb ∧ rd_I hb) ∧ ∃ hb : cv_H, o = (none, hb) ∧ zSR hb (0, (fun _ => 0), 0, [], [], [])) (cw_X_and (sp_plain Th215 pq (fun h a0 a1 a2 a3 => ⟨h, rfl, a0, a1, a2, a3⟩)) (rt_plain Th215 (fun hb b1 b2 b3 => ⟨hb, rfl, b3⟩))) (fun o ho => ?_)
      obtain ⟨⟨h216, rfl, Th216, Zh216, Ch216, Ih216⟩, hx, he, Sh216⟩ := ho
      cases he
      show cw_X _ _ _ _ _ [] h216
      have Ah216 : cw_Fr cw_Ds cw_sh mk_tl h215 h216 := cw_Fr_mono (by decide +kernel) Ch216
      refine ex_al oq_X12_text_49 rfl ?_
      refine ex_cv oq_X12_text_50 (by decide) Th216 (k := 111) (d := 12) (as := []) (stk := []) rfl rfl rfl rfl rfl rfl ⟨rfl, rfl⟩ (R := fun o => (∃ hb : cv_H, o = (none, hb) ∧ cw_T G hb ∧ cw_PQ G 0 (ri_at h215 111 8) n.toInt hb ∧ cw_Fr cw_Ds cw_sh kk_X12_token.2.2.2.2.2.1 h216 hb ∧ (ri_at hb 111 8 = 0 ∨ 0 < ri_at hb 111 7)) ∧ ∃ hb : cv_H, o = (none, hb) ∧ zR t n.toInt.toNat 0 hb) (cw_X_and (sp_tokenQ (cw_Xok_no2 hX) Th216 Zh216 (fun h a0 a1 a2 a3 => ⟨h, rfl, a0, a1, a2, a3⟩)) (rt_tok (t := t) (n := n.toInt.toNat) (p := 0) (fun i hi => by rw [ht i (by omega)]; exact ((ri_frr Ah216 (k := 112) (d := 51) rfl rfl (by decide +kernel)).trans (ri_frr Fw (k := 112) (d := 51) rfl rfl (by decide +kernel))).symm) (by omega) (fun i hi => by rw [← hwr i hi]; exact (ri_frr Ah216 (k := 113) (d := 52) rfl rfl (by decide +kernel)).trans (ri_frr Fw (k := 113) (d := 52) rfl rfl (by decide +kernel))) Th216 (by omega) (by rw [ri_frf Ch216 (k := 111) (i := 6) rfl rfl (by decide +kernel)]; omega) (by rw [ri_frf Ch216 (k := 111) (i := 7) rfl rfl (by decide +kernel)]; omega) (fun hb b1 b2 b3 => ⟨hb, rfl, b3⟩))) (fun o ho => ?_)
      obtain ⟨⟨h217, rfl, Th217, Zh217, Ch217, prh217⟩, hx, he, Rh217⟩ := ho
      cases he
      have Sh217 := zSR_fr Ch217 Sh216 (by decide +kernel)
      show cw_X _ _ _ _ _ [] h217
      have Ah217 : cw_Fr cw_Ds cw_sh mk_tl h215 h217 := cw_Fr_tr Ah216 (cw_Fr_mono (by decide +kernel) Ch217)
      have rgh217 : ∀ i, ri_at h217 119 i = ri_at h216 119 i := fun i => ri_frq Ch217 (d := 58) rfl rfl (by decide) (by decide +kernel)
      have rch217 : ∀ i, ri_at h217 124 i = ri_at h216 124 i := fun i => ri_frq Ch217 (d := 63) rfl rfl (by decide) (by decide +kernel)
      have rth217 : ∀ i, ri_at h217 117 i = ri_at h216 117 i := fun i => ri_frr Ch217 (d := 56) rfl rfl (by decide +kernel)
      have rlh217 : ∀ i, ri_at h217 116 i = ri_at h216 116 i := fun i => ri_frr Ch217 (d := 55) rfl rfl (by decide +kernel)
      have Ih217 : rd_I h217 := rd_ext Ih216 (ri_frf Ch217 (d := 12) rfl rfl (by decide +kernel)) (ri_frf Ch217 (d := 12) rfl rfl (by decide +kernel)) (ri_frf Ch217 (d := 12) rfl rfl (by decide +kernel)) (ri_frf Ch217 (d := 12) rfl rfl (by decide +kernel)) rgh217 rch217 rth217 rlh217
      refine ex_ic oq_X12_text_53 (m := 0) (by decide) (fun x218 hx218 => ?_)
      refine ex_isA oq_X12_text_54 (fun L219 gL219_2 kL219 => ?_)
      have gL219_0 : cv_get L219 0 = some (cv_r 111) := kL219 0 _ (by decide) (fun q => absurd q (by decide)) rfl
      have gL219_1 : cv_get L219 1 = some (cv_i n) := kL219 1 _ (by decide) (fun _ => rfl) rfl
      have y7 := Zh217.1.2.1.1
      have y6 := Zh217.2.2.2
      have y0 : 0 ≤ ri_at h217 111 7 := Zh217.2.1
      refine rt_tx2 (h0 := h215) (F := fun i => ri_at h0 111 i) (t := t) (n := n.toInt.toNat) (S := ztx t n.toInt.toNat 901 0 (0, (fun _ => 0), 0, [], [], []) 0) hX (fun i hi => by rw [ht i (by omega)]; exact (ri_frr Fw (k := 112) (d := 51) rfl rfl (by decide +kernel)).symm) (by omega) (fun i hi => by rw [← hwr i hi]; exact ri_frr Fw (k := 113) (d := 52) rfl rfl (by decide +kernel)) hw5 (fun x G' h' a1 a2 a3 a4 a5 => hQ x G' h' a1 a2 (cw_Fr_tr Fw (cw_Fr_mono (by decide +kernel) a3)) ?_) 901 _ 0 x218 h217 (by omega) (by omega) (by rw [hx218]) Th217 Zh217.1 Ih217 Rh217 Sh217 ?_ ?_ ?_ Ah217 L219 gL219_0 gL219_2 (by omega) (by omega)
      · have yt : ri_at h' 111 1 = ri_at h215 111 1 := ri_frf a3 (d := 12) rfl rfl (by decide +kernel)
        exact .inr ⟨by omega, by omega, by omega, a4, a5⟩
      · rw [ri_frf Ch217 (k := 111) (i := 4) rfl rfl (by decide +kernel), ri_frf Ch216 (k := 111) (i := 4) rfl rfl (by decide +kernel)]; omega
      · rw [ri_frf Ch217 (k := 111) (i := 5) rfl rfl (by decide +kernel), ri_frf Ch216 (k := 111) (i := 5) rfl rfl (by decide +kernel)]; omega
      · exact zK5 Ch217 (by decide +kernel) (zK5 Ch216 (by decide +kernel) (zK5 Fh215 (by decide +kernel) (fun i _ => rfl)))
    · refine ex_bi oq_X12_text_17 (m := (-2)) (by decide) (fun x220 hx220 => ?_)
      exact ex_reti oq_X12_text_19 rfl (hQ x220 G h202 Th202 (pp_fr1 (by decide +kernel) hP Fh202 ⟨by have := hP.2.1.1; omega, by intro q; have := hP.2.1.2.1; omega, by intro q; have := hP.2.1.2.2; omega⟩) (cw_Fr_mono (by decide +kernel) Fh202) (.inl ⟨by omega, by omega, by omega, by omega, by omega, fun i hi => ri_frf Fh202 (k := 111) (d := 12) rfl rfl (by revert i; decide +kernel)⟩))
end TZ
