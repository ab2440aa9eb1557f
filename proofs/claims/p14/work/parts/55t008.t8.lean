section
/-! ===== signs, signed numbers, names: the reference ===== -/
theorem zRe_no {α : Type} {t : Nat → Int} {n : Nat} {h h' : cv_H} {x : Int32} {z : (Int × Nat) ⊕ (α × Nat)} {D : α → Prop} (d : zRe t n h h' x z D) (c : x.toInt = 0) : ∃ f a, z = .inl (f, a) ∧ x.toInt = 0 ∧ ri_at h' 111 4 = f ∧ ri_at h' 111 5 = a ∧ 1 ≤ f := by
  rcases d with ⟨v, q, _, _, e, _⟩ | d
  · omega
  · exact d
theorem zRe_yes {α : Type} {t : Nat → Int} {n : Nat} {h h' : cv_H} {x : Int32} {z : (Int × Nat) ⊕ (α × Nat)} {D : α → Prop} (d : zRe t n h h' x z D) (c : ¬ x.toInt = 0) : ∃ v q, z = .inr (v, q) ∧ q ≤ n ∧ x.toInt = 1 ∧ zR t n q h' ∧ ri_at h' 111 4 = ri_at h 111 4 ∧ ri_at h' 111 5 = ri_at h 111 5 ∧ D v := by
  rcases d with d | ⟨f, a, _, e, _⟩
  · exact d
  · exact absurd e c
theorem zn_rg {t : Nat → Int} {n p : Nat} {lo hi v : Int} {q : Nat} (e : zn t n lo hi p = .inr (v, q)) : lo ≤ v ∧ v ≤ hi := by
  unfold zn at e
  split at e
  · split at e
    · rename_i h
      cases e
      exact h
    · cases e
  · cases e
theorem zg_m {t : Nat → Int} {n p : Nat} {hi : Int} {v : Int} {q : Nat} (h : zk t n p = 4 ∧ zw t n p = 45) (e : zn t n 0 hi (zx t n p) = .inr (v, q)) : zg t n hi p = .inr (-v, q) := by unfold zg; rw [if_pos h, e]
theorem zg_me {t : Nat → Int} {n p : Nat} {hi : Int} {b : Int × Nat} (h : zk t n p = 4 ∧ zw t n p = 45) (e : zn t n 0 hi (zx t n p) = .inl b) : zg t n hi p = .inl b := by unfold zg; rw [if_pos h, e]
theorem zg_p {t : Nat → Int} {n p : Nat} {hi : Int} (h : ¬ (zk t n p = 4 ∧ zw t n p = 45)) : zg t n hi p = zn t n 0 hi p := by unfold zg; rw [if_neg h]
section TZ
variable {G : Int} {X : cv_X} {Q : cv_O → Prop} {t : Nat → Int}
theorem rt_isKey {h : cv_H} {n p : Nat} (hT : cw_T G h) (hz : zR t n p h) (c : Int32) (hQ : ∀ x : Int32, (x.toInt = 1 ∧ zk t n p = 1 ∧ zw t n p = c.toInt ∨ x.toInt = 0 ∧ ¬ (zk t n p = 1 ∧ zw t n p = c.toInt)) → Q (some (cv_i x), h)) : cw_X X 166 Q 0 (cv_ent 0 [cv_r 111, cv_i c]) [] h := by
  obtain ⟨z1, z2, z3, z4, z5⟩ := hz
  refine ex_al oq_X12_isKey_0 rfl ?_
  obtain ⟨x1, ax1, rx1, lx1, ux1⟩ := fi_kind hT
  refine ex_gf oq_X12_isKey_1 hT (k := 111) (d := 12) rfl rfl ax1 ?_
  refine ex_ic oq_X12_isKey_4 (m := 1) (by decide) (fun x2 hx2 => ?_)
  refine ex_if oq_X12_isKey_5 (t := 20) rfl rfl (fun (c3 : ¬ x1.toInt = x2.toInt) => ?_) (fun (c3 : ¬ (¬ x1.toInt = x2.toInt)) => ?_)
  · refine ex_ic oq_X12_isKey_20 (m := 0) (by decide) (fun x4 hx4 => ?_)
    exact ex_retb oq_X12_isKey_21 rfl (by omega) (by omega) (hQ x4 (by omega))
  · refine ex_al oq_X12_isKey_8 rfl ?_
    obtain ⟨x5, ax5, rx5, lx5, ux5⟩ := fi_which hT
    refine ex_gf oq_X12_isKey_9 hT (k := 111) (d := 12) rfl rfl ax5 ?_
    refine ex_il oq_X12_isKey_12 rfl ?_
    refine ex_if oq_X12_isKey_13 (t := 20) rfl rfl (fun (c6 : ¬ x5.toInt = c.toInt) => ?_) (fun (c6 : ¬ (¬ x5.toInt = c.toInt)) => ?_)
    · refine ex_ic oq_X12_isKey_20 (m := 0) (by decide) (fun x7 hx7 => ?_)
      exact ex_retb oq_X12_isKey_21 rfl (by omega) (by omega) (hQ x7 (by omega))
    · refine ex_ic oq_X12_isKey_16 (m := 1) (by decide) (fun x8 hx8 => ?_)
      refine ex_go oq_X12_isKey_17 (t := 21) rfl rfl ?_
      exact ex_retb oq_X12_isKey_21 rfl (by omega) (by omega) (hQ x8 (by omega))
theorem rt_isSign {h : cv_H} {n p : Nat} (hT : cw_T G h) (hz : zR t n p h) (c : Int32) (hQ : ∀ x : Int32, (x.toInt = 1 ∧ zk t n p = 4 ∧ zw t n p = c.toInt ∨ x.toInt = 0 ∧ ¬ (zk t n p = 4 ∧ zw t n p = c.toInt)) → Q (some (cv_i x), h)) : cw_X X 167 Q 0 (cv_ent 0 [cv_r 111, cv_i c]) [] h := by
  obtain ⟨z1, z2, z3, z4, z5⟩ := hz
  refine ex_al oq_X12_isSign_0 rfl ?_
  obtain ⟨x1, ax1, rx1, lx1, ux1⟩ := fi_kind hT
  refine ex_gf oq_X12_isSign_1 hT (k := 111) (d := 12) rfl rfl ax1 ?_
  refine ex_ic oq_X12_isSign_4 (m := 4) (by decide) (fun x2 hx2 => ?_)
  refine ex_if oq_X12_isSign_5 (t := 20) rfl rfl (fun (c3 : ¬ x1.toInt = x2.toInt) => ?_) (fun (c3 : ¬ (¬ x1.toInt = x2.toInt)) => ?_)
  · refine ex_ic oq_X12_isSign_20 (m := 0) (by decide) (fun x4 hx4 => ?_)
    exact ex_retb oq_X12_isSign_21 rfl (by omega) (by omega) (hQ x4 (by omega))
  · refine ex_al oq_X12_isSign_8 rfl ?_
    obtain ⟨x5, ax5, rx5, lx5, ux5⟩ := fi_which hT
    refine ex_gf oq_X12_isSign_9 hT (k := 111) (d := 12) rfl rfl ax5 ?_
    refine ex_il oq_X12_isSign_12 rfl ?_
    refine ex_if oq_X12_isSign_13 (t := 20) rfl rfl (fun (c6 : ¬ x5.toInt = c.toInt) => ?_) (fun (c6 : ¬ (¬ x5.toInt = c.toInt)) => ?_)
    · refine ex_ic oq_X12_isSign_20 (m := 0) (by decide) (fun x7 hx7 => ?_)
      exact ex_retb oq_X12_isSign_21 rfl (by omega) (by omega) (hQ x7 (by omega))
    · refine ex_ic oq_X12_isSign_16 (m := 1) (by decide) (fun x8 hx8 => ?_)
      refine ex_go oq_X12_isSign_17 (t := 21) rfl rfl ?_
      exact ex_retb oq_X12_isSign_21 rfl (by omega) (by omega) (hQ x8 (by omega))
theorem oq_X12_signed_0 : cw_ho 169 0 (.aload_n 0) 1 0 0 0 := rfl
theorem oq_X12_signed_1 : cw_ho 169 1 (.bipush 45) 2 0 0 0 := rfl
theorem oq_X12_signed_3 : cw_ho 169 3 (.invokevirtual 190) 3 167 1 12 := rfl
theorem oq_X12_signed_6 : cw_ho 169 6 (.istore_n 2) 1 0 0 0 := rfl
theorem oq_X12_signed_7 : cw_ho 169 7 (.iload_n 2) 1 0 0 0 := rfl
theorem oq_X12_signed_8 : cw_ho 169 8 (.ifCond .eq 7) 3 0 0 0 := rfl
theorem oq_X12_signed_11 : cw_ho 169 11 (.aload_n 0) 1 0 0 0 := rfl
theorem oq_X12_signed_12 : cw_ho 169 12 (.invokevirtual 187) 3 163 0 12 := rfl
theorem oq_X12_signed_15 : cw_ho 169 15 (.aload_n 0) 1 0 0 0 := rfl
theorem oq_X12_signed_16 : cw_ho 169 16 (.iconst 0) 1 0 0 0 := rfl
theorem oq_X12_signed_17 : cw_ho 169 17 (.iload_n 1) 1 0 0 0 := rfl
theorem oq_X12_signed_18 : cw_ho 169 18 (.invokevirtual 193) 3 168 2 12 := rfl
theorem oq_X12_signed_21 : cw_ho 169 21 (.ifCond .ne 5) 3 0 0 0 := rfl
theorem oq_X12_signed_24 : cw_ho 169 24 (.iconst 0) 1 0 0 0 := rfl
theorem oq_X12_signed_25 : cw_ho 169 25 (.ireturn) 1 0 0 0 := rfl
theorem oq_X12_signed_26 : cw_ho 169 26 (.aload_n 0) 1 0 0 0 := rfl
theorem oq_X12_signed_27 : cw_ho 169 27 (.iload_n 2) 1 0 0 0 := rfl
theorem oq_X12_signed_28 : cw_ho 169 28 (.ifCond .eq 11) 3 0 0 0 := rfl
theorem oq_X12_signed_31 : cw_ho 169 31 (.aload_n 0) 1 0 0 0 := rfl
theorem oq_X12_signed_32 : cw_ho 169 32 (.getfield 184) 3 12 11 0 := rfl
theorem oq_X12_signed_35 : cw_ho 169 35 (.ineg) 1 0 0 0 := rfl
theorem oq_X12_signed_36 : cw_ho 169 36 (.goto 7) 3 0 0 0 := rfl
theorem oq_X12_signed_39 : cw_ho 169 39 (.aload_n 0) 1 0 0 0 := rfl
theorem oq_X12_signed_40 : cw_ho 169 40 (.getfield 184) 3 12 11 0 := rfl
theorem oq_X12_signed_43 : cw_ho 169 43 (.putfield 184) 3 12 11 0 := rfl
theorem oq_X12_signed_46 : cw_ho 169 46 (.iconst 1) 1 0 0 0 := rfl
theorem oq_X12_signed_47 : cw_ho 169 47 (.ireturn) 1 0 0 0 := rfl
theorem rt_signed {h0 : cv_H} {n p : Nat} (ht : ∀ i, i < n → t i = ri_at h0 112 i) (hn9 : n ≤ 900) (hT : cw_T G h0) (hwr : ∀ i, i < 177 → ri_at h0 113 i = pp_words.getD i 0) (hpn : p ≤ n) (hz : zR t n p h0) (hi : Int32) (hi0 : 0 ≤ hi.toInt ∧ hi.toInt ≤ 9999) (hQ : ∀ (x : Int32) h', cw_T G h' → cw_Fr cw_Ds cw_sh kk_X12_signed.2.2.2.2.2.1 h0 h' → zRe t n h0 h' x (zg t n hi.toInt p) (fun v => ri_at h' 111 11 = v) → Q (some (cv_i x), h')) : cw_X X 169 Q 0 (cv_ent 0 [cv_r 111, cv_i hi]) [] h0 := by
  have Fh0 : cw_Fr cw_Ds cw_sh kk_X12_signed.2.2.2.2.2.1 h0 h0 := cw_Fr_refl
  have zxl := zx_le (t := t) hpn
  obtain ⟨z1, z2, z3, z4, z5⟩ := id hz
  have hA : ∀ h, cw_Fr cw_Ds cw_sh kk_X12_signed.2.2.2.2.2.1 h0 h → ∀ i, ri_at h 112 i = ri_at h0 112 i := fun h F i => ri_frr F (k := 112) (d := 51) rfl rfl (by decide +kernel)
  have hB : ∀ h, cw_Fr cw_Ds cw_sh kk_X12_signed.2.2.2.2.2.1 h0 h → ∀ i, ri_at h 113 i = ri_at h0 113 i := fun h F i => ri_frr F (k := 113) (d := 52) rfl rfl (by decide +kernel)
  refine ex_al oq_X12_signed_0 rfl ?_
  refine ex_bi oq_X12_signed_1 (m := 45) (by decide) (fun x101 hx101 => ?_)
  refine ex_cv oq_X12_signed_3 (by decide) hT (k := 111) (d := 12) (as := [cv_i x101]) (stk := []) rfl rfl rfl rfl rfl rfl ⟨rfl, rfl⟩ (R := fun o => ∃ x : Int32, o = (some (cv_i x), h0) ∧ (x.toInt = 1 ∧ zk t n p = 4 ∧ zw t n p = x101.toInt ∨ x.toInt = 0 ∧ ¬ (zk t n p = 4 ∧ zw t n p = x101.toInt))) (rt_isSign (t := t) (n := n) (p := p) hT (by exact hz) x101 (fun x q => ⟨x, rfl, q⟩)) (fun o ho => ?_)
  obtain ⟨x102, rfl, dx102⟩ := ho
  show cw_X _ _ _ _ _ [cv_i x102] h0
  rw [hx101] at dx102
  refine ex_isA oq_X12_signed_6 (fun L103 gL103_2 kL103 => ?_)
  have gL103_0 : cv_get L103 0 = some (cv_r 111) := kL103 0 _ (by decide) (fun q => absurd q (by decide)) rfl
  have gL103_1 : cv_get L103 1 = some (cv_i hi) := kL103 1 _ (by decide) (fun _ => rfl) rfl
  refine ex_il oq_X12_signed_7 gL103_2 ?_
  refine ex_if0 oq_X12_signed_8 (t := 15) rfl rfl (fun (c104 : x102.toInt = 0) => ?_) (fun (c104 : ¬ (x102.toInt = 0)) => ?_)
  · have ng : ¬ (zk t n p = 4 ∧ zw t n p = 45) := by omega
    clear dx102
    refine ex_al oq_X12_signed_15 gL103_0 ?_
    refine ex_ic oq_X12_signed_16 (m := 0) (by decide) (fun x105 hx105 => ?_)
    refine ex_il oq_X12_signed_17 gL103_1 ?_
    refine ex_cv oq_X12_signed_18 (by decide) hT (k := 111) (d := 12) (as := [cv_i x105, cv_i hi]) (stk := []) rfl rfl rfl rfl rfl rfl ⟨rfl, rfl⟩ (R := fun o => ∃ (x : Int32) (hb : cv_H), o = (some (cv_i x), hb) ∧ cw_T G hb ∧ cw_Fr cw_Ds cw_sh kk_X12_number.2.2.2.2.2.1 h0 hb ∧ zRe t n h0 hb x (zn t n x105.toInt hi.toInt p) (fun v => ri_at hb 111 11 = v)) (rt_number (t := t) (n := n) (p := p) (fun i hi => by rw [ht i hi, ← hA _ Fh0]) hn9 hT (fun i hi => by rw [hB _ Fh0]; exact hwr i hi) (by omega) hz x105 hi (fun x hb b1 b2 b3 => ⟨x, hb, rfl, b1, b2, b3⟩)) (fun o ho => ?_)
    obtain ⟨x106, h107, rfl, Th107, Ch107, dx106⟩ := ho
    show cw_X _ _ _ _ _ [cv_i x106] h107
    have Fh107 : cw_Fr cw_Ds cw_sh kk_X12_signed.2.2.2.2.2.1 h0 h107 := cw_Fr_tr Fh0 (cw_Fr_mono (by decide +kernel) Ch107)
    refine ex_if0 oq_X12_signed_21 (t := 26) rfl rfl (fun (c108 : ¬ x106.toInt = 0) => ?_) (fun (c108 : ¬ (¬ x106.toInt = 0)) => ?_)
    · obtain ⟨nv, nq, e1, e2, e3, e4, e5, e6, e7⟩ := zRe_yes dx106 (by omega)
      clear dx106
      obtain ⟨y1, y2, y3, y4, y5⟩ := id e4
      have e8 := zn_rg e1
      refine ex_al oq_X12_signed_26 gL103_0 ?_
      refine ex_il oq_X12_signed_27 gL103_2 ?_
      refine ex_if0 oq_X12_signed_28 (t := 39) rfl rfl (fun (c109 : x102.toInt = 0) => ?_) (fun (c109 : ¬ (x102.toInt = 0)) => ?_)
      · refine ex_al oq_X12_signed_39 gL103_0 ?_
        obtain ⟨x110, ax110, rx110, lx110, ux110⟩ := fi_got Th107
        refine ex_gf oq_X12_signed_40 Th107 (k := 111) (d := 12) rfl rfl ax110 ?_
        refine ex_pfi oq_X12_signed_43 Th107 (k := 111) (d := 12) rfl rfl rfl (cw_i32 _).1 (cw_i32 _).2 (fun h111 Th111 wh111 => ?_)
        have Fh111 : cw_Fr cw_Ds cw_sh kk_X12_signed.2.2.2.2.2.1 h0 h111 := cw_Fr_tr Fh107 (cw_Fr_wrf wh111 (k := 111) (d := 12) rfl rfl (by decide +kernel))
        have eh111_4 : ri_at h111 111 4 = ri_at h107 111 4 := ri_ne wh111 (by decide)
        have eh111_5 : ri_at h111 111 5 = ri_at h107 111 5 := ri_ne wh111 (by decide)
        have eh111_6 : ri_at h111 111 6 = ri_at h107 111 6 := ri_ne wh111 (by decide)
        have eh111_7 : ri_at h111 111 7 = ri_at h107 111 7 := ri_ne wh111 (by decide)
        have eh111_8 : ri_at h111 111 8 = ri_at h107 111 8 := ri_ne wh111 (by decide)
        have eh111_9 : ri_at h111 111 9 = ri_at h107 111 9 := ri_ne wh111 (by decide)
        have eh111_10 : ri_at h111 111 10 = ri_at h107 111 10 := ri_ne wh111 (by decide)
        have eh111_11 : ri_at h111 111 11 = x110.toInt := ri_self wh111
        refine ex_ic oq_X12_signed_46 (m := 1) (by decide) (fun x112 hx112 => ?_)
        exact ex_retb oq_X12_signed_47 rfl (by omega) (by omega) (hQ x112 h111 Th111 Fh111 (.inl ⟨_, _, (zg_p ng).trans (show zn t n 0 hi.toInt p = _ from by rw [← hx105]; exact e1), e2, by omega, ⟨by omega, by omega, by omega, by omega, fun q1 q2 => by have := y5 q1 q2; omega⟩, by omega, by omega, by omega⟩))
      · refine ex_al oq_X12_signed_31 gL103_0 ?_
        obtain ⟨x113, ax113, rx113, lx113, ux113⟩ := fi_got Th107
        refine ex_gf oq_X12_signed_32 Th107 (k := 111) (d := 12) rfl rfl ax113 ?_
        refine ex_neg oq_X12_signed_35 (by omega) (fun x114 hx114 => ?_)
        refine ex_go oq_X12_signed_36 (t := 43) rfl rfl ?_
        refine ex_pfi oq_X12_signed_43 Th107 (k := 111) (d := 12) rfl rfl rfl (cw_i32 _).1 (cw_i32 _).2 (fun h115 Th115 wh115 => ?_)
        have Fh115 : cw_Fr cw_Ds cw_sh kk_X12_signed.2.2.2.2.2.1 h0 h115 := cw_Fr_tr Fh107 (cw_Fr_wrf wh115 (k := 111) (d := 12) rfl rfl (by decide +kernel))
        have eh115_4 : ri_at h115 111 4 = ri_at h107 111 4 := ri_ne wh115 (by decide)
        have eh115_5 : ri_at h115 111 5 = ri_at h107 111 5 := ri_ne wh115 (by decide)
        have eh115_6 : ri_at h115 111 6 = ri_at h107 111 6 := ri_ne wh115 (by decide)
        have eh115_7 : ri_at h115 111 7 = ri_at h107 111 7 := ri_ne wh115 (by decide)
        have eh115_8 : ri_at h115 111 8 = ri_at h107 111 8 := ri_ne wh115 (by decide)
        have eh115_9 : ri_at h115 111 9 = ri_at h107 111 9 := ri_ne wh115 (by decide)
        have eh115_10 : ri_at h115 111 10 = ri_at h107 111 10 := ri_ne wh115 (by decide)
        have eh115_11 : ri_at h115 111 11 = x114.toInt := ri_self wh115
        refine ex_ic oq_X12_signed_46 (m := 1) (by decide) (fun x116 hx116 => ?_)
        exact ex_retb oq_X12_signed_47 rfl (by omega) (by omega) (hQ x116 h115 Th115 Fh115 (.inl ⟨_, _, (zg_p ng).trans (show zn t n 0 hi.toInt p = _ from by rw [← hx105]; exact e1), e2, by omega, ⟨by omega, by omega, by omega, by omega, fun q1 q2 => by have := y5 q1 q2; omega⟩, by omega, by omega, by omega⟩))
    · obtain ⟨fc, fa, e1, e2, e3, e4, e5⟩ := zRe_no dx106 (by omega)
      clear dx106
      refine ex_ic oq_X12_signed_24 (m := 0) (by decide) (fun x117 hx117 => ?_)
      exact ex_retb oq_X12_signed_25 rfl (by omega) (by omega) (hQ x117 h107 Th107 Fh107 (.inr ⟨_, _, (zg_p ng).trans (show zn t n 0 hi.toInt p = _ from by rw [← hx105]; exact e1), by omega, by omega, by omega, by omega⟩))
  · have pg : zk t n p = 4 ∧ zw t n p = 45 := by omega
    clear dx102
    refine ex_al oq_X12_signed_11 gL103_0 ?_
    refine ex_cv oq_X12_signed_12 (by decide) hT (k := 111) (d := 12) (as := []) (stk := []) rfl rfl rfl rfl rfl rfl ⟨rfl, rfl⟩ (R := fun o => ∃ hb : cv_H, o = (none, hb) ∧ cw_T G hb ∧ cw_Fr cw_Ds cw_sh kk_X12_token.2.2.2.2.2.1 h0 hb ∧ zR t n (zx t n p) hb) (rt_tok (t := t) (n := n) (p := zx t n p) (fun i hi => by rw [ht i hi, ← hA _ Fh0]) hn9 (fun i hi => by rw [hB _ Fh0]; exact hwr i hi) hT (zx_le (by omega)) (by omega) (by omega) (fun hb b1 b2 b3 => ⟨hb, rfl, b1, b2, b3⟩)) (fun o ho => ?_)
    obtain ⟨h118, rfl, Th118, Ch118, Zh118⟩ := ho
    show cw_X _ _ _ _ _ [] h118
    have Fh118 : cw_Fr cw_Ds cw_sh kk_X12_signed.2.2.2.2.2.1 h0 h118 := cw_Fr_tr Fh0 (cw_Fr_mono (by decide +kernel) Ch118)
    have eh118_4 : ri_at h118 111 4 = ri_at h0 111 4 := ri_frf Ch118 (d := 12) rfl rfl (by decide +kernel)
    have eh118_5 : ri_at h118 111 5 = ri_at h0 111 5 := ri_frf Ch118 (d := 12) rfl rfl (by decide +kernel)
    have eh118_11 : ri_at h118 111 11 = ri_at h0 111 11 := ri_frf Ch118 (d := 12) rfl rfl (by decide +kernel)
    refine ex_al oq_X12_signed_15 gL103_0 ?_
    refine ex_ic oq_X12_signed_16 (m := 0) (by decide) (fun x119 hx119 => ?_)
    refine ex_il oq_X12_signed_17 gL103_1 ?_
    refine ex_cv oq_X12_signed_18 (by decide) Th118 (k := 111) (d := 12) (as := [cv_i x119, cv_i hi]) (stk := []) rfl rfl rfl rfl rfl rfl ⟨rfl, rfl⟩ (R := fun o => ∃ (x : Int32) (hb : cv_H), o = (some (cv_i x), hb) ∧ cw_T G hb ∧ cw_Fr cw_Ds cw_sh kk_X12_number.2.2.2.2.2.1 h118 hb ∧ zRe t n h118 hb x (zn t n x119.toInt hi.toInt (zx t n p)) (fun v => ri_at hb 111 11 = v)) (rt_number (t := t) (n := n) (p := (zx t n p)) (fun i hi => by rw [ht i hi, ← hA _ Fh118]) hn9 Th118 (fun i hi => by rw [hB _ Fh118]; exact hwr i hi) (by omega) Zh118 x119 hi (fun x hb b1 b2 b3 => ⟨x, hb, rfl, b1, b2, b3⟩)) (fun o ho => ?_)
    obtain ⟨x120, h121, rfl, Th121, Ch121, dx120⟩ := ho
    show cw_X _ _ _ _ _ [cv_i x120] h121
    have Fh121 : cw_Fr cw_Ds cw_sh kk_X12_signed.2.2.2.2.2.1 h0 h121 := cw_Fr_tr Fh118 (cw_Fr_mono (by decide +kernel) Ch121)
    refine ex_if0 oq_X12_signed_21 (t := 26) rfl rfl (fun (c122 : ¬ x120.toInt = 0) => ?_) (fun (c122 : ¬ (¬ x120.toInt = 0)) => ?_)
    · obtain ⟨nv, nq, e1, e2, e3, e4, e5, e6, e7⟩ := zRe_yes dx120 (by omega)
      clear dx120
      obtain ⟨y1, y2, y3, y4, y5⟩ := id e4
      have e8 := zn_rg e1
      refine ex_al oq_X12_signed_26 gL103_0 ?_
      refine ex_il oq_X12_signed_27 gL103_2 ?_
      refine ex_if0 oq_X12_signed_28 (t := 39) rfl rfl (fun (c123 : x102.toInt = 0) => ?_) (fun (c123 : ¬ (x102.toInt = 0)) => ?_)
      · refine ex_al oq_X12_signed_39 gL103_0 ?_
        obtain ⟨x124, ax124, rx124, lx124, ux124⟩ := fi_got Th121
        refine ex_gf oq_X12_signed_40 Th121 (k := 111) (d := 12) rfl rfl ax124 ?_
        refine ex_pfi oq_X12_signed_43 Th121 (k := 111) (d := 12) rfl rfl rfl (cw_i32 _).1 (cw_i32 _).2 (fun h125 Th125 wh125 => ?_)
        have Fh125 : cw_Fr cw_Ds cw_sh kk_X12_signed.2.2.2.2.2.1 h0 h125 := cw_Fr_tr Fh121 (cw_Fr_wrf wh125 (k := 111) (d := 12) rfl rfl (by decide +kernel))
        have eh125_4 : ri_at h125 111 4 = ri_at h121 111 4 := ri_ne wh125 (by decide)
        have eh125_5 : ri_at h125 111 5 = ri_at h121 111 5 := ri_ne wh125 (by decide)
        have eh125_6 : ri_at h125 111 6 = ri_at h121 111 6 := ri_ne wh125 (by decide)
        have eh125_7 : ri_at h125 111 7 = ri_at h121 111 7 := ri_ne wh125 (by decide)
        have eh125_8 : ri_at h125 111 8 = ri_at h121 111 8 := ri_ne wh125 (by decide)
        have eh125_9 : ri_at h125 111 9 = ri_at h121 111 9 := ri_ne wh125 (by decide)
        have eh125_10 : ri_at h125 111 10 = ri_at h121 111 10 := ri_ne wh125 (by decide)
        have eh125_11 : ri_at h125 111 11 = x124.toInt := ri_self wh125
        refine ex_ic oq_X12_signed_46 (m := 1) (by decide) (fun x126 hx126 => ?_)
        exact ex_retb oq_X12_signed_47 rfl (by omega) (by omega) (hQ x126 h125 Th125 Fh125 (.inl ⟨_, _, zg_m pg (show zn t n 0 hi.toInt (zx t n p) = _ from by rw [← hx119]; exact e1), e2, by omega, ⟨by omega, by omega, by omega, by omega, fun q1 q2 => by have := y5 q1 q2; omega⟩, by omega, by omega, by omega⟩))
      · refine ex_al oq_X12_signed_31 gL103_0 ?_
        obtain ⟨x127, ax127, rx127, lx127, ux127⟩ := fi_got Th121
        refine ex_gf oq_X12_signed_32 Th121 (k := 111) (d := 12) rfl rfl ax127 ?_
        refine ex_neg oq_X12_signed_35 (by omega) (fun x128 hx128 => ?_)
        refine ex_go oq_X12_signed_36 (t := 43) rfl rfl ?_
        refine ex_pfi oq_X12_signed_43 Th121 (k := 111) (d := 12) rfl rfl rfl (cw_i32 _).1 (cw_i32 _).2 (fun h129 Th129 wh129 => ?_)
        have Fh129 : cw_Fr cw_Ds cw_sh kk_X12_signed.2.2.2.2.2.1 h0 h129 := cw_Fr_tr Fh121 (cw_Fr_wrf wh129 (k := 111) (d := 12) rfl rfl (by decide +kernel))
        have eh129_4 : ri_at h129 111 4 = ri_at h121 111 4 := ri_ne wh129 (by decide)
        have eh129_5 : ri_at h129 111 5 = ri_at h121 111 5 := ri_ne wh129 (by decide)
        have eh129_6 : ri_at h129 111 6 = ri_at h121 111 6 := ri_ne wh129 (by decide)
        have eh129_7 : ri_at h129 111 7 = ri_at h121 111 7 := ri_ne wh129 (by decide)
        have eh129_8 : ri_at h129 111 8 = ri_at h121 111 8 := ri_ne wh129 (by decide)
        have eh129_9 : ri_at h129 111 9 = ri_at h121 111 9 := ri_ne wh129 (by decide)
        have eh129_10 : ri_at h129 111 10 = ri_at h121 111 10 := ri_ne wh129 (by decide)
        have eh129_11 : ri_at h129 111 11 = x128.toInt := ri_self wh129
        refine ex_ic oq_X12_signed_46 (m := 1) (by decide) (fun x130 hx130 => ?_)
        exact ex_retb oq_X12_signed_47 rfl (by omega) (by omega) (hQ x130 h129 Th129 Fh129 (.inl ⟨_, _, zg_m pg (show zn t n 0 hi.toInt (zx t n p) = _ from by rw [← hx119]; exact e1), e2, by omega, ⟨by omega, by omega, by omega, by omega, fun q1 q2 => by have := y5 q1 q2; omega⟩, by omega, by omega, by omega⟩))
    · obtain ⟨fc, fa, e1, e2, e3, e4, e5⟩ := zRe_no dx120 (by omega)
      clear dx120
      refine ex_ic oq_X12_signed_24 (m := 0) (by decide) (fun x131 hx131 => ?_)
      exact ex_retb oq_X12_signed_25 rfl (by omega) (by omega) (hQ x131 h121 Th121 Fh121 (.inr ⟨_, _, zg_me pg (show zn t n 0 hi.toInt (zx t n p) = _ from by rw [← hx119]; exact e1), by omega, by omega, by omega, by omega⟩))
end TZ
end
section
/-! ===== names and rows of numbers: the reference ===== -/
theorem zy_top {y : Int32} {j : Nat} {r : Int × Int} (h : [(-2147483648, 2147483647), (-2147483648, 2147483647), (-2147483648, 2147483647), (-2147483648, 2147483647), (-2147483648, 2147483647), (-2147483648, 2147483647), (-2147483648, 2147483647), (-2147483648, 2147483647), (-2147483648, 2147483647), (-2147483648, 2147483647), (-2147483648, 2147483647), (-2147483648, 2147483647), (-2147483648, 2147483647), (-2147483648, 2147483647), (-2147483648, 2147483647), (-2147483648, 2147483647)][j]? = some r) : r.1 ≤ y.toInt ∧ y.toInt ≤ r.2 := by
  have hm := List.mem_of_getElem? h
  simp only [List.mem_cons, List.not_mem_nil, or_false, or_self] at hm
  have hb := cw_i32 y
  rw [hm]
  exact hb
theorem zfd_hit {l : List Int} {x : Int} {k : Nat} (hk : k < l.length) (h : l.getD k 0 = x) : tz_find (l.drop k) x k = k := by
  rw [List.drop_eq_getElem_cons hk]
  unfold tz_find
  rw [if_pos]
  rw [← h, List.getD_eq_getElem?_getD, List.getElem?_eq_getElem hk]
  rfl
theorem zfd_go {l : List Int} {x : Int} {k : Nat} (hk : k < l.length) (h : ¬ l.getD k 0 = x) : tz_find (l.drop k) x k = tz_find (l.drop (k + 1)) x (k + 1) := by
  rw [List.drop_eq_getElem_cons hk]
  show (if x = l[k] then (k : Int) else tz_find (l.drop (k + 1)) x (k + 1)) = _
  rw [if_neg]
  intro e
  apply h
  rw [e, List.getD_eq_getElem?_getD, List.getElem?_eq_getElem hk]
  rfl
theorem zfd_end {l : List Int} {x : Int} {k : Nat} (hk : l.length ≤ k) : tz_find (l.drop k) x k = -1 := by
  rw [List.drop_of_length_le hk]
  rfl
theorem zfd_b {x : Int} : ∀ (l : List Int) (k : Nat), tz_find l x k = -1 ∨ (k : Int) ≤ tz_find l x k ∧ tz_find l x k < k + l.length := by
  intro l
  induction l with
  | nil => intro k; exact .inl rfl
  | cons y l ih =>
    intro k
    unfold tz_find
    split
    · right; simp only [List.length_cons]; omega
    · rcases ih (k + 1) with q | q
      · exact .inl q
      · right; simp only [List.length_cons]; omega
/-- a name that is not one of those told -/
def zm (t : Nat → Int) (n : Nat) (l : List Int) (p : Nat) : (Int × Nat) ⊕ (Int × Nat) := if zk t n p = 2 then (if 0 ≤ tz_find l (zw t n p) 0 then .inl (3, za t n p) else .inr (zw t n p, zx t n p)) else .inl (1, za t n p)
theorem zm_1 {t : Nat → Int} {n p : Nat} {l : List Int} (h : ¬ zk t n p = 2) : zm t n l p = .inl (1, za t n p) := by unfold zm; rw [if_neg h]
theorem zm_3 {t : Nat → Int} {n p : Nat} {l : List Int} (h : zk t n p = 2) (h1 : 0 ≤ tz_find l (zw t n p) 0) : zm t n l p = .inl (3, za t n p) := by unfold zm; rw [if_pos h, if_pos h1]
theorem zm_ok {t : Nat → Int} {n p : Nat} {l : List Int} (h : zk t n p = 2) (h1 : tz_find l (zw t n p) 0 < 0) : zm t n l p = .inr (zw t n p, zx t n p) := by unfold zm; rw [if_pos h, if_neg (by omega)]
/-- some numbers one behind the other -/
def zns (t : Nat → Int) (n : Nat) (lo hi : Int) : Nat → Nat → (Int × Nat) ⊕ (List Int × Nat)
  | 0, p => .inr ([], p)
  | k + 1, p => match zn t n lo hi p with
    | .inl e => .inl e
    | .inr (v, q) => match zns t n lo hi k q with
      | .inl e => .inl e
      | .inr (vs, q') => .inr (v :: vs, q')
def zpre (acc : List Int) (z : (Int × Nat) ⊕ (List Int × Nat)) : (Int × Nat) ⊕ (List Int × Nat) := match z with
  | .inl e => .inl e
  | .inr (vs, q) => .inr (acc ++ vs, q)
theorem zns_e {t : Nat → Int} {n k p : Nat} {lo hi : Int} {acc : List Int} {e : Int × Nat} (h : zn t n lo hi p = .inl e) : zpre acc (zns t n lo hi (k + 1) p) = .inl e := by
  have : zns t n lo hi (k + 1) p = .inl e := by
    show (match zn t n lo hi p with
      | .inl e => _
      | .inr (v, q) => _) = _
    rw [h]
  rw [this]
  rfl
theorem zns_s {t : Nat → Int} {n k p q : Nat} {lo hi v : Int} {acc : List Int} (h : zn t n lo hi p = .inr (v, q)) : zpre acc (zns t n lo hi (k + 1) p) = zpre (acc ++ [v]) (zns t n lo hi k q) := by
  have : zns t n lo hi (k + 1) p = (match zns t n lo hi k q with
      | .inl e => .inl e
      | .inr (vs, q') => .inr (v :: vs, q')) := by
    show (match zn t n lo hi p with
      | .inl e => _
      | .inr (v, q) => _) = _
    rw [h]
  rw [this]
  cases zns t n lo hi k q with
  | inl e => rfl
  | inr w => obtain ⟨vs, q'⟩ := w; simp [zpre]
theorem zns_0 {t : Nat → Int} {n p : Nat} {lo hi : Int} {acc : List Int} : zpre acc (zns t n lo hi 0 p) = .inr (acc, p) := by simp [zpre, zns]
theorem zpre_nil {z : (Int × Nat) ⊕ (List Int × Nat)} : zpre [] z = z := by
  cases z with
  | inl e => rfl
  | inr w => obtain ⟨vs, q⟩ := w; rfl
theorem zget_app {acc : List Int} {v : Int} {i : Nat} (hi : i ≤ acc.length) : (acc ++ [v]).getD i 0 = if i < acc.length then acc.getD i 0 else v := by
  simp only [List.getD_eq_getElem?_getD]
  by_cases q : i < acc.length
  · rw [if_pos q, List.getElem?_append_left q]
  · have : i = acc.length := by omega
    subst this
    rw [if_neg (Nat.lt_irrefl _), List.getElem?_append_right (Nat.le_refl _)]
    simp
section TZ
variable {G : Int} {X : cv_X} {Q : cv_O → Prop} {t : Nat → Int}
theorem oq_X12_find_0 : cw_ho 174 0 (.iconst 0) 1 0 0 0 := rfl
theorem oq_X12_find_1 : cw_ho 174 1 (.istore 4) 2 0 0 0 := rfl
theorem oq_X12_find_3 : cw_ho 174 3 (.iload 4) 2 0 0 0 := rfl
theorem oq_X12_find_5 : cw_ho 174 5 (.iload_n 2) 1 0 0 0 := rfl
theorem oq_X12_find_6 : cw_ho 174 6 (.if_icmp .ge 22) 3 0 0 0 := rfl
theorem oq_X12_find_9 : cw_ho 174 9 (.aload_n 0) 1 0 0 0 := rfl
theorem oq_X12_find_10 : cw_ho 174 10 (.iload_n 1) 1 0 0 0 := rfl
theorem oq_X12_find_11 : cw_ho 174 11 (.iload 4) 2 0 0 0 := rfl
theorem oq_X12_find_13 : cw_ho 174 13 (.iadd) 1 0 0 0 := rfl
theorem oq_X12_find_14 : cw_ho 174 14 (.iaload) 1 0 0 0 := rfl
theorem oq_X12_find_15 : cw_ho 174 15 (.iload_n 3) 1 0 0 0 := rfl
theorem oq_X12_find_16 : cw_ho 174 16 (.if_icmp .ne 6) 3 0 0 0 := rfl
theorem oq_X12_find_19 : cw_ho 174 19 (.iload 4) 2 0 0 0 := rfl
theorem oq_X12_find_21 : cw_ho 174 21 (.ireturn) 1 0 0 0 := rfl
theorem oq_X12_find_22 : cw_ho 174 22 (.iinc 4 1) 3 0 0 0 := rfl
theorem oq_X12_find_25 : cw_ho 174 25 (.goto (-22)) 3 0 0 0 := rfl
theorem oq_X12_find_28 : cw_ho 174 28 (.iconst (-1)) 1 0 0 0 := rfl
theorem oq_X12_find_29 : cw_ho 174 29 (.ireturn) 1 0 0 0 := rfl
theorem rt_findGL {h : cv_H} (hT : cw_T G h) {F M N : Int32} {f : Nat} {l : List Int} (hF : F.toInt = f) (hM : M.toInt = l.length) (hf : f + l.length ≤ 8) (hl : ∀ k, k < l.length → ri_at h 118 (f + k) = l.getD k 0) (hQ : ∀ x : Int32, x.toInt = tz_find l N.toInt 0 → Q (some (cv_i x), h)) :
    ∀ (u k : Nat) (L : cv_L) (K : Int32), l.length - k = u → k ≤ l.length → K.toInt = k → tz_find (l.drop k) N.toInt k = tz_find l N.toInt 0 → cv_get L 0 = some (cv_r 118) → cv_get L 1 = some (cv_i F) → cv_get L 2 = some (cv_i M) → cv_get L 3 = some (cv_i N) → cv_get L 4 = some (cv_i K) → cw_X X 174 Q 3 L [] h := by
  intro u
  induction u with
  | zero =>
    intro k L K hu hk hK hst g0 g1 g2 g3 g4
    refine ex_ilw oq_X12_find_3 g4 ?_
    refine ex_il oq_X12_find_5 g2 ?_
    refine ex_if oq_X12_find_6 (t := 28) rfl rfl (fun (c101 : M.toInt ≤ K.toInt) => ?_) (fun (c101 : ¬ (M.toInt ≤ K.toInt)) => ?_)
    · refine ex_ic oq_X12_find_28 (m := (-1)) (by decide) (fun x102 hx102 => ?_)
      exact ex_reti oq_X12_find_29 rfl (hQ x102 (by rw [← hst, zfd_end (by omega)]; omega))
    · exfalso; omega
  | succ u ih =>
    intro k L K hu hk hK hst g0 g1 g2 g3 g4
    have hlk := hl k (by omega)
    refine ex_ilw oq_X12_find_3 g4 ?_
    refine ex_il oq_X12_find_5 g2 ?_
    refine ex_if oq_X12_find_6 (t := 28) rfl rfl (fun (c101 : M.toInt ≤ K.toInt) => ?_) (fun (c101 : ¬ (M.toInt ≤ K.toInt)) => ?_)
    · exfalso; omega
    · refine ex_al oq_X12_find_9 g0 ?_
      refine ex_il oq_X12_find_10 g1 ?_
      refine ex_ilw oq_X12_find_11 g4 ?_
      refine ex_add oq_X12_find_13 (by omega) (fun x102 hx102 => ?_)
      refine ex_ia1 oq_X12_find_14 hT (k := 118) (d := 57) (j := f + k) rfl rfl (by omega) (by omega) (fun x103 hx103 lx103 ux103 => ?_)
      refine ex_il oq_X12_find_15 g3 ?_
      refine ex_if oq_X12_find_16 (t := 22) rfl rfl (fun (c104 : ¬ x103.toInt = N.toInt) => ?_) (fun (c104 : ¬ (¬ x103.toInt = N.toInt)) => ?_)
      · refine ex_incA oq_X12_find_22 (v := K) (m := 1) g4 (by decide) (by omega) (fun L106 x105 hx105 gL106_4 kL106 => ?_)
        have gL106_0 : cv_get L106 0 = some (cv_r 118) := kL106 0 _ (by decide) (fun q => absurd q (by decide)) g0
        have gL106_1 : cv_get L106 1 = some (cv_i F) := kL106 1 _ (by decide) (fun q => absurd q (by decide)) g1
        have gL106_2 : cv_get L106 2 = some (cv_i M) := kL106 2 _ (by decide) (fun q => absurd q (by decide)) g2
        have gL106_3 : cv_get L106 3 = some (cv_i N) := kL106 3 _ (by decide) (fun _ => rfl) g3
        refine ex_go oq_X12_find_25 (t := 3) rfl rfl ?_
        exact ih (k + 1) L106 x105 (by omega) (by omega) (by omega) (by rw [← hst]; exact (zfd_go (by omega) (by omega)).symm) gL106_0 gL106_1 gL106_2 gL106_3 gL106_4
      · refine ex_ilw oq_X12_find_19 g4 ?_
        exact ex_reti oq_X12_find_21 rfl (hQ K (by rw [← hst, zfd_hit (by omega) (by omega)]; omega))
theorem rt_findG {h : cv_H} (hT : cw_T G h) {F M N : Int32} {f : Nat} {l : List Int} (hF : F.toInt = f) (hM : M.toInt = l.length) (hf : f + l.length ≤ 8) (hl : ∀ k, k < l.length → ri_at h 118 (f + k) = l.getD k 0) (hQ : ∀ x : Int32, x.toInt = tz_find l N.toInt 0 → Q (some (cv_i x), h)) : cw_X X 174 Q 0 (cv_ent 0 [cv_r 118, cv_i F, cv_i M, cv_i N]) [] h := by
  refine ex_ic oq_X12_find_0 (m := 0) (by decide) (fun x201 hx201 => ?_)
  refine ex_iswA oq_X12_find_1 (fun L202 gL202_4 kL202 => ?_)
  have gL202_0 : cv_get L202 0 = some (cv_r 118) := kL202 0 _ (by decide) (fun q => absurd q (by decide)) rfl
  have gL202_1 : cv_get L202 1 = some (cv_i F) := kL202 1 _ (by decide) (fun q => absurd q (by decide)) rfl
  have gL202_2 : cv_get L202 2 = some (cv_i M) := kL202 2 _ (by decide) (fun q => absurd q (by decide)) rfl
  have gL202_3 : cv_get L202 3 = some (cv_i N) := kL202 3 _ (by decide) (fun _ => rfl) rfl
  exact rt_findGL hT hF hM hf hl hQ l.length 0 L202 x201 (by omega) (by omega) (by omega) rfl gL202_0 gL202_1 gL202_2 gL202_3 gL202_4
theorem rt_findWL {h : cv_H} (hT : cw_T G h) {F M N : Int32} {f : Nat} {l : List Int} (hF : F.toInt = f) (hM : M.toInt = l.length) (hf : f + l.length ≤ 12) (hl : ∀ k, k < l.length → ri_at h 121 (f + k) = l.getD k 0) (hQ : ∀ x : Int32, x.toInt = tz_find l N.toInt 0 → Q (some (cv_i x), h)) :
    ∀ (u k : Nat) (L : cv_L) (K : Int32), l.length - k = u → k ≤ l.length → K.toInt = k → tz_find (l.drop k) N.toInt k = tz_find l N.toInt 0 → cv_get L 0 = some (cv_r 121) → cv_get L 1 = some (cv_i F) → cv_get L 2 = some (cv_i M) → cv_get L 3 = some (cv_i N) → cv_get L 4 = some (cv_i K) → cw_X X 174 Q 3 L [] h := by
  intro u
  induction u with
  | zero =>
    intro k L K hu hk hK hst g0 g1 g2 g3 g4
    refine ex_ilw oq_X12_find_3 g4 ?_
    refine ex_il oq_X12_find_5 g2 ?_
    refine ex_if oq_X12_find_6 (t := 28) rfl rfl (fun (c101 : M.toInt ≤ K.toInt) => ?_) (fun (c101 : ¬ (M.toInt ≤ K.toInt)) => ?_)
    · refine ex_ic oq_X12_find_28 (m := (-1)) (by decide) (fun x102 hx102 => ?_)
      exact ex_reti oq_X12_find_29 rfl (hQ x102 (by rw [← hst, zfd_end (by omega)]; omega))
    · exfalso; omega
  | succ u ih =>
    intro k L K hu hk hK hst g0 g1 g2 g3 g4
    have hlk := hl k (by omega)
    refine ex_ilw oq_X12_find_3 g4 ?_
    refine ex_il oq_X12_find_5 g2 ?_
    refine ex_if oq_X12_find_6 (t := 28) rfl rfl (fun (c101 : M.toInt ≤ K.toInt) => ?_) (fun (c101 : ¬ (M.toInt ≤ K.toInt)) => ?_)
    · exfalso; omega
    · refine ex_al oq_X12_find_9 g0 ?_
      refine ex_il oq_X12_find_10 g1 ?_
      refine ex_ilw oq_X12_find_11 g4 ?_
      refine ex_add oq_X12_find_13 (by omega) (fun x102 hx102 => ?_)
      refine ex_ia1 oq_X12_find_14 hT (k := 121) (d := 60) (j := f + k) rfl rfl (by omega) (by omega) (fun x103 hx103 lx103 ux103 => ?_)
      refine ex_il oq_X12_find_15 g3 ?_
      refine ex_if oq_X12_find_16 (t := 22) rfl rfl (fun (c104 : ¬ x103.toInt = N.toInt) => ?_) (fun (c104 : ¬ (¬ x103.toInt = N.toInt)) => ?_)
      · refine ex_incA oq_X12_find_22 (v := K) (m := 1) g4 (by decide) (by omega) (fun L106 x105 hx105 gL106_4 kL106 => ?_)
        have gL106_0 : cv_get L106 0 = some (cv_r 121) := kL106 0 _ (by decide) (fun q => absurd q (by decide)) g0
        have gL106_1 : cv_get L106 1 = some (cv_i F) := kL106 1 _ (by decide) (fun q => absurd q (by decide)) g1
        have gL106_2 : cv_get L106 2 = some (cv_i M) := kL106 2 _ (by decide) (fun q => absurd q (by decide)) g2
        have gL106_3 : cv_get L106 3 = some (cv_i N) := kL106 3 _ (by decide) (fun _ => rfl) g3
        refine ex_go oq_X12_find_25 (t := 3) rfl rfl ?_
        exact ih (k + 1) L106 x105 (by omega) (by omega) (by omega) (by rw [← hst]; exact (zfd_go (by omega) (by omega)).symm) gL106_0 gL106_1 gL106_2 gL106_3 gL106_4
      · refine ex_ilw oq_X12_find_19 g4 ?_
        exact ex_reti oq_X12_find_21 rfl (hQ K (by rw [← hst, zfd_hit (by omega) (by omega)]; omega))
theorem rt_findW {h : cv_H} (hT : cw_T G h) {F M N : Int32} {f : Nat} {l : List Int} (hF : F.toInt = f) (hM : M.toInt = l.length) (hf : f + l.length ≤ 12) (hl : ∀ k, k < l.length → ri_at h 121 (f + k) = l.getD k 0) (hQ : ∀ x : Int32, x.toInt = tz_find l N.toInt 0 → Q (some (cv_i x), h)) : cw_X X 174 Q 0 (cv_ent 0 [cv_r 121, cv_i F, cv_i M, cv_i N]) [] h := by
  refine ex_ic oq_X12_find_0 (m := 0) (by decide) (fun x201 hx201 => ?_)
  refine ex_iswA oq_X12_find_1 (fun L202 gL202_4 kL202 => ?_)
  have gL202_0 : cv_get L202 0 = some (cv_r 121) := kL202 0 _ (by decide) (fun q => absurd q (by decide)) rfl
  have gL202_1 : cv_get L202 1 = some (cv_i F) := kL202 1 _ (by decide) (fun q => absurd q (by decide)) rfl
  have gL202_2 : cv_get L202 2 = some (cv_i M) := kL202 2 _ (by decide) (fun q => absurd q (by decide)) rfl
  have gL202_3 : cv_get L202 3 = some (cv_i N) := kL202 3 _ (by decide) (fun _ => rfl) rfl
  exact rt_findWL hT hF hM hf hl hQ l.length 0 L202 x201 (by omega) (by omega) (by omega) rfl gL202_0 gL202_1 gL202_2 gL202_3 gL202_4
theorem rt_findCL {h : cv_H} (hT : cw_T G h) {F M N : Int32} {f : Nat} {l : List Int} (hF : F.toInt = f) (hM : M.toInt = l.length) (hf : f + l.length ≤ 12) (hl : ∀ k, k < l.length → ri_at h 123 (f + k) = l.getD k 0) (hQ : ∀ x : Int32, x.toInt = tz_find l N.toInt 0 → Q (some (cv_i x), h)) :
    ∀ (u k : Nat) (L : cv_L) (K : Int32), l.length - k = u → k ≤ l.length → K.toInt = k → tz_find (l.drop k) N.toInt k = tz_find l N.toInt 0 → cv_get L 0 = some (cv_r 123) → cv_get L 1 = some (cv_i F) → cv_get L 2 = some (cv_i M) → cv_get L 3 = some (cv_i N) → cv_get L 4 = some (cv_i K) → cw_X X 174 Q 3 L [] h := by
  intro u
  induction u with
  | zero =>
    intro k L K hu hk hK hst g0 g1 g2 g3 g4
    refine ex_ilw oq_X12_find_3 g4 ?_
    refine ex_il oq_X12_find_5 g2 ?_
    refine ex_if oq_X12_find_6 (t := 28) rfl rfl (fun (c101 : M.toInt ≤ K.toInt) => ?_) (fun (c101 : ¬ (M.toInt ≤ K.toInt)) => ?_)
    · refine ex_ic oq_X12_find_28 (m := (-1)) (by decide) (fun x102 hx102 => ?_)
      exact ex_reti oq_X12_find_29 rfl (hQ x102 (by rw [← hst, zfd_end (by omega)]; omega))
    · exfalso; omega
  | succ u ih =>
    intro k L K hu hk hK hst g0 g1 g2 g3 g4
    have hlk := hl k (by omega)
    refine ex_ilw oq_X12_find_3 g4 ?_
    refine ex_il oq_X12_find_5 g2 ?_
    refine ex_if oq_X12_find_6 (t := 28) rfl rfl (fun (c101 : M.toInt ≤ K.toInt) => ?_) (fun (c101 : ¬ (M.toInt ≤ K.toInt)) => ?_)
    · exfalso; omega
    · refine ex_al oq_X12_find_9 g0 ?_
      refine ex_il oq_X12_find_10 g1 ?_
      refine ex_ilw oq_X12_find_11 g4 ?_
      refine ex_add oq_X12_find_13 (by omega) (fun x102 hx102 => ?_)
      refine ex_ia1 oq_X12_find_14 hT (k := 123) (d := 62) (j := f + k) rfl rfl (by omega) (by omega) (fun x103 hx103 lx103 ux103 => ?_)
      refine ex_il oq_X12_find_15 g3 ?_
      refine ex_if oq_X12_find_16 (t := 22) rfl rfl (fun (c104 : ¬ x103.toInt = N.toInt) => ?_) (fun (c104 : ¬ (¬ x103.toInt = N.toInt)) => ?_)
      · refine ex_incA oq_X12_find_22 (v := K) (m := 1) g4 (by decide) (by omega) (fun L106 x105 hx105 gL106_4 kL106 => ?_)
        have gL106_0 : cv_get L106 0 = some (cv_r 123) := kL106 0 _ (by decide) (fun q => absurd q (by decide)) g0
        have gL106_1 : cv_get L106 1 = some (cv_i F) := kL106 1 _ (by decide) (fun q => absurd q (by decide)) g1
        have gL106_2 : cv_get L106 2 = some (cv_i M) := kL106 2 _ (by decide) (fun q => absurd q (by decide)) g2
        have gL106_3 : cv_get L106 3 = some (cv_i N) := kL106 3 _ (by decide) (fun _ => rfl) g3
        refine ex_go oq_X12_find_25 (t := 3) rfl rfl ?_
        exact ih (k + 1) L106 x105 (by omega) (by omega) (by omega) (by rw [← hst]; exact (zfd_go (by omega) (by omega)).symm) gL106_0 gL106_1 gL106_2 gL106_3 gL106_4
      · refine ex_ilw oq_X12_find_19 g4 ?_
        exact ex_reti oq_X12_find_21 rfl (hQ K (by rw [← hst, zfd_hit (by omega) (by omega)]; omega))
theorem rt_findC {h : cv_H} (hT : cw_T G h) {F M N : Int32} {f : Nat} {l : List Int} (hF : F.toInt = f) (hM : M.toInt = l.length) (hf : f + l.length ≤ 12) (hl : ∀ k, k < l.length → ri_at h 123 (f + k) = l.getD k 0) (hQ : ∀ x : Int32, x.toInt = tz_find l N.toInt 0 → Q (some (cv_i x), h)) : cw_X X 174 Q 0 (cv_ent 0 [cv_r 123, cv_i F, cv_i M, cv_i N]) [] h := by
  refine ex_ic oq_X12_find_0 (m := 0) (by decide) (fun x201 hx201 => ?_)
  refine ex_iswA oq_X12_find_1 (fun L202 gL202_4 kL202 => ?_)
  have gL202_0 : cv_get L202 0 = some (cv_r 123) := kL202 0 _ (by decide) (fun q => absurd q (by decide)) rfl
  have gL202_1 : cv_get L202 1 = some (cv_i F) := kL202 1 _ (by decide) (fun q => absurd q (by decide)) rfl
  have gL202_2 : cv_get L202 2 = some (cv_i M) := kL202 2 _ (by decide) (fun q => absurd q (by decide)) rfl
  have gL202_3 : cv_get L202 3 = some (cv_i N) := kL202 3 _ (by decide) (fun _ => rfl) rfl
  exact rt_findCL hT hF hM hf hl hQ l.length 0 L202 x201 (by omega) (by omega) (by omega) rfl gL202_0 gL202_1 gL202_2 gL202_3 gL202_4
theorem oq_X12_newName_0 : cw_ho 175 0 (.aload_n 0) 1 0 0 0 := rfl
theorem oq_X12_newName_1 : cw_ho 175 1 (.getfield 154) 3 12 8 0 := rfl
theorem oq_X12_newName_4 : cw_ho 175 4 (.iconst 2) 1 0 0 0 := rfl
theorem oq_X12_newName_5 : cw_ho 175 5 (.if_icmp .eq 9) 3 0 0 0 := rfl
theorem oq_X12_newName_8 : cw_ho 175 8 (.aload_n 0) 1 0 0 0 := rfl
theorem oq_X12_newName_9 : cw_ho 175 9 (.iconst 1) 1 0 0 0 := rfl
theorem oq_X12_newName_10 : cw_ho 175 10 (.invokevirtual 177) 3 159 1 12 := rfl
theorem oq_X12_newName_13 : cw_ho 175 13 (.ireturn) 1 0 0 0 := rfl
theorem oq_X12_newName_14 : cw_ho 175 14 (.aload_n 1) 1 0 0 0 := rfl
theorem oq_X12_newName_15 : cw_ho 175 15 (.iload_n 2) 1 0 0 0 := rfl
theorem oq_X12_newName_16 : cw_ho 175 16 (.iload_n 3) 1 0 0 0 := rfl
theorem oq_X12_newName_17 : cw_ho 175 17 (.aload_n 0) 1 0 0 0 := rfl
theorem oq_X12_newName_18 : cw_ho 175 18 (.getfield 165) 3 12 9 0 := rfl
theorem oq_X12_newName_21 : cw_ho 175 21 (.invokestatic 252) 3 174 4 0 := rfl
theorem oq_X12_newName_24 : cw_ho 175 24 (.ifCond .lt 9) 3 0 0 0 := rfl
theorem oq_X12_newName_27 : cw_ho 175 27 (.aload_n 0) 1 0 0 0 := rfl
theorem oq_X12_newName_28 : cw_ho 175 28 (.iconst 3) 1 0 0 0 := rfl
theorem oq_X12_newName_29 : cw_ho 175 29 (.invokevirtual 177) 3 159 1 12 := rfl
theorem oq_X12_newName_32 : cw_ho 175 32 (.ireturn) 1 0 0 0 := rfl
theorem oq_X12_newName_33 : cw_ho 175 33 (.aload_n 1) 1 0 0 0 := rfl
theorem oq_X12_newName_34 : cw_ho 175 34 (.iload_n 2) 1 0 0 0 := rfl
theorem oq_X12_newName_35 : cw_ho 175 35 (.iload_n 3) 1 0 0 0 := rfl
theorem oq_X12_newName_36 : cw_ho 175 36 (.iadd) 1 0 0 0 := rfl
theorem oq_X12_newName_37 : cw_ho 175 37 (.aload_n 0) 1 0 0 0 := rfl
theorem oq_X12_newName_38 : cw_ho 175 38 (.getfield 165) 3 12 9 0 := rfl
theorem oq_X12_newName_41 : cw_ho 175 41 (.iastore) 1 0 0 0 := rfl
theorem oq_X12_newName_42 : cw_ho 175 42 (.aload_n 0) 1 0 0 0 := rfl
theorem oq_X12_newName_43 : cw_ho 175 43 (.invokevirtual 187) 3 163 0 12 := rfl
theorem oq_X12_newName_46 : cw_ho 175 46 (.iconst 1) 1 0 0 0 := rfl
theorem oq_X12_newName_47 : cw_ho 175 47 (.ireturn) 1 0 0 0 := rfl
theorem rt_newNameG {h0 : cv_H} {n p : Nat} (ht : ∀ i, i < n → t i = ri_at h0 112 i) (hn9 : n ≤ 900) (hT : cw_T G h0) (hwr : ∀ i, i < 177 → ri_at h0 113 i = pp_words.getD i 0) (hpn : p ≤ n) (hz : zR t n p h0) {F M : Int32} {l : List Int} (hF : F.toInt = 4) (hM : M.toInt = l.length) (hlm : l.length < 4) (hl : ∀ k, k < l.length → ri_at h0 118 (4 + k) = l.getD k 0) (hQ : ∀ (x : Int32) h', cw_T G h' → cw_Fr cw_Ds cw_sh kk_X12_newName.2.2.2.2.2.1 h0 h' → zRe t n h0 h' x (zm t n l p) (fun v => (∀ k, k < l.length → ri_at h' 118 (4 + k) = l.getD k 0) ∧ ri_at h' 118 (4 + l.length) = v) → Q (some (cv_i x), h')) : cw_X X 175 Q 0 (cv_ent 0 [cv_r 111, cv_r 118, cv_i F, cv_i M]) [] h0 := by
  have Fh0 : cw_Fr cw_Ds cw_sh kk_X12_newName.2.2.2.2.2.1 h0 h0 := cw_Fr_refl
  have zxl := zx_le (t := t) hpn
  obtain ⟨z1, z2, z3, z4, z5⟩ := id hz
  have hA : ∀ h, cw_Fr cw_Ds cw_sh kk_X12_newName.2.2.2.2.2.1 h0 h → ∀ i, ri_at h 112 i = ri_at h0 112 i := fun h F i => ri_frr F (k := 112) (d := 51) rfl rfl (by decide +kernel)
  have hB : ∀ h, cw_Fr cw_Ds cw_sh kk_X12_newName.2.2.2.2.2.1 h0 h → ∀ i, ri_at h 113 i = ri_at h0 113 i := fun h F i => ri_frr F (k := 113) (d := 52) rfl rfl (by decide +kernel)
  refine ex_al oq_X12_newName_0 rfl ?_
  obtain ⟨x401, ax401, rx401, lx401, ux401⟩ := fi_kind hT
  refine ex_gf oq_X12_newName_1 hT (k := 111) (d := 12) rfl rfl ax401 ?_
  refine ex_ic oq_X12_newName_4 (m := 2) (by decide) (fun x402 hx402 => ?_)
  refine ex_if oq_X12_newName_5 (t := 14) rfl rfl (fun (c403 : x401.toInt = x402.toInt) => ?_) (fun (c403 : ¬ (x401.toInt = x402.toInt)) => ?_)
  · refine ex_al oq_X12_newName_14 rfl ?_
    refine ex_il oq_X12_newName_15 rfl ?_
    refine ex_il oq_X12_newName_16 rfl ?_
    refine ex_al oq_X12_newName_17 rfl ?_
    obtain ⟨x404, ax404, rx404, lx404, ux404⟩ := fi_which hT
    refine ex_gf oq_X12_newName_18 hT (k := 111) (d := 12) rfl rfl ax404 ?_
    refine ex_cs oq_X12_newName_21 (by decide) (as := [cv_r 118, cv_i F, cv_i M, cv_i x404]) (stk := []) rfl rfl rfl ⟨rfl, rfl⟩ (R := fun o => ∃ x : Int32, o = (some (cv_i x), h0) ∧ x.toInt = tz_find l x404.toInt 0) (rt_findG (f := 4) (l := l) hT (by omega) (by omega) (by omega) (fun k hk => hl k hk) (fun x q => ⟨x, rfl, q⟩)) (fun o ho => ?_)
    obtain ⟨x405, rfl, qx405⟩ := ho
    show cw_X _ _ _ _ _ [cv_i x405] h0
    rw [show x404.toInt = zw t n p from by omega] at qx405
    refine ex_if0 oq_X12_newName_24 (t := 33) rfl rfl (fun (c406 : x405.toInt < 0) => ?_) (fun (c406 : ¬ (x405.toInt < 0)) => ?_)
    · refine ex_al oq_X12_newName_33 rfl ?_
      refine ex_il oq_X12_newName_34 rfl ?_
      refine ex_il oq_X12_newName_35 rfl ?_
      refine ex_add oq_X12_newName_36 (by omega) (fun x407 hx407 => ?_)
      refine ex_al oq_X12_newName_37 rfl ?_
      obtain ⟨x408, ax408, rx408, lx408, ux408⟩ := fi_which hT
      refine ex_gf oq_X12_newName_38 hT (k := 111) (d := 12) rfl rfl ax408 ?_
      refine ex_iw1 oq_X12_newName_41 hT (k := 118) (d := 57) (j := 4 + l.length) rfl rfl (by omega) (by omega) ⟨(cw_i32 _).1, (cw_i32 _).2⟩ (fun h409 Th409 wh409 => ?_)
      have Fh409 : cw_Fr cw_Ds cw_sh kk_X12_newName.2.2.2.2.2.1 h0 h409 := cw_Fr_tr Fh0 (cw_Fr_wrr wh409 (k := 118) (d := 57) rfl rfl (by decide +kernel))
      have eh409_4 : ri_at h409 111 4 = ri_at h0 111 4 := ri_ne wh409 (.inl (by decide))
      have eh409_5 : ri_at h409 111 5 = ri_at h0 111 5 := ri_ne wh409 (.inl (by decide))
      have eh409_6 : ri_at h409 111 6 = ri_at h0 111 6 := ri_ne wh409 (.inl (by decide))
      have eh409_7 : ri_at h409 111 7 = ri_at h0 111 7 := ri_ne wh409 (.inl (by decide))
      have eh409_8 : ri_at h409 111 8 = ri_at h0 111 8 := ri_ne wh409 (.inl (by decide))
      have eh409_9 : ri_at h409 111 9 = ri_at h0 111 9 := ri_ne wh409 (.inl (by decide))
      have eh409_10 : ri_at h409 111 10 = ri_at h0 111 10 := ri_ne wh409 (.inl (by decide))
      have eh409_11 : ri_at h409 111 11 = ri_at h0 111 11 := ri_ne wh409 (.inl (by decide))
      refine ex_al oq_X12_newName_42 rfl ?_
      refine ex_cv oq_X12_newName_43 (by decide) Th409 (k := 111) (d := 12) (as := []) (stk := []) rfl rfl rfl rfl rfl rfl ⟨rfl, rfl⟩ (R := fun o => ∃ hb : cv_H, o = (none, hb) ∧ cw_T G hb ∧ cw_Fr cw_Ds cw_sh kk_X12_token.2.2.2.2.2.1 h409 hb ∧ zR t n (zx t n p) hb) (rt_tok (t := t) (n := n) (p := zx t n p) (fun i hi => by rw [ht i hi, ← hA _ Fh409]) hn9 (fun i hi => by rw [hB _ Fh409]; exact hwr i hi) Th409 (zx_le (by omega)) (by omega) (by omega) (fun hb b1 b2 b3 => ⟨hb, rfl, b1, b2, b3⟩)) (fun o ho => ?_)
      obtain ⟨h410, rfl, Th410, Ch410, Zh410⟩ := ho
      show cw_X _ _ _ _ _ [] h410
      have Fh410 : cw_Fr cw_Ds cw_sh kk_X12_newName.2.2.2.2.2.1 h0 h410 := cw_Fr_tr Fh409 (cw_Fr_mono (by decide +kernel) Ch410)
      have eh410_4 : ri_at h410 111 4 = ri_at h409 111 4 := ri_frf Ch410 (d := 12) rfl rfl (by decide +kernel)
      have eh410_5 : ri_at h410 111 5 = ri_at h409 111 5 := ri_frf Ch410 (d := 12) rfl rfl (by decide +kernel)
      have eh410_11 : ri_at h410 111 11 = ri_at h409 111 11 := ri_frf Ch410 (d := 12) rfl rfl (by decide +kernel)
      refine ex_ic oq_X12_newName_46 (m := 1) (by decide) (fun x411 hx411 => ?_)
      have hr : ∀ i, ri_at h410 118 i = ri_at h409 118 i := fun i => ri_frr Ch410 (k := 118) (d := 57) rfl rfl (by decide +kernel)
      exact ex_retb oq_X12_newName_47 rfl (by omega) (by omega) (hQ x411 h410 Th410 Fh410 (.inl ⟨_, _, zm_ok (by omega) (by omega), zx_le (by omega), by omega, Zh410, by omega, by omega, fun k hk => by rw [hr, ri_ne wh409 (.inr (by omega))]; exact hl k hk, by rw [hr, ri_self wh409]; omega⟩))
    · refine ex_al oq_X12_newName_27 rfl ?_
      refine ex_ic oq_X12_newName_28 (m := 3) (by decide) (fun x412 hx412 => ?_)
      refine ex_cv oq_X12_newName_29 (by decide) hT (k := 111) (d := 12) (as := [cv_i x412]) (stk := []) rfl rfl rfl rfl rfl rfl ⟨rfl, rfl⟩ (R := fun o => ∃ (x : Int32) (hb : cv_H), o = (some (cv_i x), hb) ∧ cw_T G hb ∧ cw_Fr cw_Ds cw_sh kk_X12_wrong.2.2.2.2.2.1 h0 hb ∧ x.toInt = 0 ∧ ri_at hb 111 4 = x412.toInt ∧ ri_at hb 111 5 = ri_at h0 111 10) (rt_wrong hT x412 (fun x hb b1 b2 b3 b4 b5 => ⟨x, hb, rfl, b1, b2, b3, b4, b5⟩)) (fun o ho => ?_)
      obtain ⟨x413, h414, rfl, Th414, Ch414, zh414, fh414, ph414⟩ := ho
      show cw_X _ _ _ _ _ [cv_i x413] h414
      have Fh414 : cw_Fr cw_Ds cw_sh kk_X12_newName.2.2.2.2.2.1 h0 h414 := cw_Fr_tr Fh0 (cw_Fr_mono (by decide +kernel) Ch414)
      exact ex_retb oq_X12_newName_32 rfl (by omega) (by omega) (hQ x413 h414 Th414 Fh414 (.inr ⟨_, _, zm_3 (by omega) (by omega), by omega, by omega, by omega, by decide⟩))
  · refine ex_al oq_X12_newName_8 rfl ?_
    refine ex_ic oq_X12_newName_9 (m := 1) (by decide) (fun x415 hx415 => ?_)
    refine ex_cv oq_X12_newName_10 (by decide) hT (k := 111) (d := 12) (as := [cv_i x415]) (stk := []) rfl rfl rfl rfl rfl rfl ⟨rfl, rfl⟩ (R := fun o => ∃ (x : Int32) (hb : cv_H), o = (some (cv_i x), hb) ∧ cw_T G hb ∧ cw_Fr cw_Ds cw_sh kk_X12_wrong.2.2.2.2.2.1 h0 hb ∧ x.toInt = 0 ∧ ri_at hb 111 4 = x415.toInt ∧ ri_at hb 111 5 = ri_at h0 111 10) (rt_wrong hT x415 (fun x hb b1 b2 b3 b4 b5 => ⟨x, hb, rfl, b1, b2, b3, b4, b5⟩)) (fun o ho => ?_)
    obtain ⟨x416, h417, rfl, Th417, Ch417, zh417, fh417, ph417⟩ := ho
    show cw_X _ _ _ _ _ [cv_i x416] h417
    have Fh417 : cw_Fr cw_Ds cw_sh kk_X12_newName.2.2.2.2.2.1 h0 h417 := cw_Fr_tr Fh0 (cw_Fr_mono (by decide +kernel) Ch417)
    exact ex_retb oq_X12_newName_13 rfl (by omega) (by omega) (hQ x416 h417 Th417 Fh417 (.inr ⟨_, _, zm_1 (by omega), by omega, by omega, by omega, by decide⟩))
theorem rt_newNameW {h0 : cv_H} {n p : Nat} (ht : ∀ i, i < n → t i = ri_at h0 112 i) (hn9 : n ≤ 900) (hT : cw_T G h0) (hwr : ∀ i, i < 177 → ri_at h0 113 i = pp_words.getD i 0) (hpn : p ≤ n) (hz : zR t n p h0) {F M : Int32} {l : List Int} (hF : F.toInt = 6) (hM : M.toInt = l.length) (hlm : l.length < 6) (hl : ∀ k, k < l.length → ri_at h0 121 (6 + k) = l.getD k 0) (hQ : ∀ (x : Int32) h', cw_T G h' → cw_Fr cw_Ds cw_sh kk_X12_newName_1.2.2.2.2.2.1 h0 h' → zRe t n h0 h' x (zm t n l p) (fun v => (∀ k, k < l.length → ri_at h' 121 (6 + k) = l.getD k 0) ∧ ri_at h' 121 (6 + l.length) = v) → Q (some (cv_i x), h')) : cw_X X 175 Q 0 (cv_ent 0 [cv_r 111, cv_r 121, cv_i F, cv_i M]) [] h0 := by
  have Fh0 : cw_Fr cw_Ds cw_sh kk_X12_newName_1.2.2.2.2.2.1 h0 h0 := cw_Fr_refl
  have zxl := zx_le (t := t) hpn
  obtain ⟨z1, z2, z3, z4, z5⟩ := id hz
  have hA : ∀ h, cw_Fr cw_Ds cw_sh kk_X12_newName_1.2.2.2.2.2.1 h0 h → ∀ i, ri_at h 112 i = ri_at h0 112 i := fun h F i => ri_frr F (k := 112) (d := 51) rfl rfl (by decide +kernel)
  have hB : ∀ h, cw_Fr cw_Ds cw_sh kk_X12_newName_1.2.2.2.2.2.1 h0 h → ∀ i, ri_at h 113 i = ri_at h0 113 i := fun h F i => ri_frr F (k := 113) (d := 52) rfl rfl (by decide +kernel)
  refine ex_al oq_X12_newName_0 rfl ?_
  obtain ⟨x401, ax401, rx401, lx401, ux401⟩ := fi_kind hT
  refine ex_gf oq_X12_newName_1 hT (k := 111) (d := 12) rfl rfl ax401 ?_
  refine ex_ic oq_X12_newName_4 (m := 2) (by decide) (fun x402 hx402 => ?_)
  refine ex_if oq_X12_newName_5 (t := 14) rfl rfl (fun (c403 : x401.toInt = x402.toInt) => ?_) (fun (c403 : ¬ (x401.toInt = x402.toInt)) => ?_)
  · refine ex_al oq_X12_newName_14 rfl ?_
    refine ex_il oq_X12_newName_15 rfl ?_
    refine ex_il oq_X12_newName_16 rfl ?_
    refine ex_al oq_X12_newName_17 rfl ?_
    obtain ⟨x404, ax404, rx404, lx404, ux404⟩ := fi_which hT
    refine ex_gf oq_X12_newName_18 hT (k := 111) (d := 12) rfl rfl ax404 ?_
    refine ex_cs oq_X12_newName_21 (by decide) (as := [cv_r 121, cv_i F, cv_i M, cv_i x404]) (stk := []) rfl rfl rfl ⟨rfl, rfl⟩ (R := fun o => ∃ x : Int32, o = (some (cv_i x), h0) ∧ x.toInt = tz_find l x404.toInt 0) (rt_findW (f := 6) (l := l) hT (by omega) (by omega) (by omega) (fun k hk => hl k hk) (fun x q => ⟨x, rfl, q⟩)) (fun o ho => ?_)
    obtain ⟨x405, rfl, qx405⟩ := ho
    show cw_X _ _ _ _ _ [cv_i x405] h0
    rw [show x404.toInt = zw t n p from by omega] at qx405
    refine ex_if0 oq_X12_newName_24 (t := 33) rfl rfl (fun (c406 : x405.toInt < 0) => ?_) (fun (c406 : ¬ (x405.toInt < 0)) => ?_)
    · refine ex_al oq_X12_newName_33 rfl ?_
      refine ex_il oq_X12_newName_34 rfl ?_
      refine ex_il oq_X12_newName_35 rfl ?_
      refine ex_add oq_X12_newName_36 (by omega) (fun x407 hx407 => ?_)
      refine ex_al oq_X12_newName_37 rfl ?_
      obtain ⟨x408, ax408, rx408, lx408, ux408⟩ := fi_which hT
      refine ex_gf oq_X12_newName_38 hT (k := 111) (d := 12) rfl rfl ax408 ?_
      refine ex_iw1 oq_X12_newName_41 hT (k := 121) (d := 60) (j := 6 + l.length) rfl rfl (by omega) (by omega) ⟨(cw_i32 _).1, (cw_i32 _).2⟩ (fun h409 Th409 wh409 => ?_)
      have Fh409 : cw_Fr cw_Ds cw_sh kk_X12_newName_1.2.2.2.2.2.1 h0 h409 := cw_Fr_tr Fh0 (cw_Fr_wrr wh409 (k := 121) (d := 60) rfl rfl (by decide +kernel))
      have eh409_4 : ri_at h409 111 4 = ri_at h0 111 4 := ri_ne wh409 (.inl (by decide))
      have eh409_5 : ri_at h409 111 5 = ri_at h0 111 5 := ri_ne wh409 (.inl (by decide))
      have eh409_6 : ri_at h409 111 6 = ri_at h0 111 6 := ri_ne wh409 (.inl (by decide))
      have eh409_7 : ri_at h409 111 7 = ri_at h0 111 7 := ri_ne wh409 (.inl (by decide))
      have eh409_8 : ri_at h409 111 8 = ri_at h0 111 8 := ri_ne wh409 (.inl (by decide))
      have eh409_9 : ri_at h409 111 9 = ri_at h0 111 9 := ri_ne wh409 (.inl (by decide))
      have eh409_10 : ri_at h409 111 10 = ri_at h0 111 10 := ri_ne wh409 (.inl (by decide))
      have eh409_11 : ri_at h409 111 11 = ri_at h0 111 11 := ri_ne wh409 (.inl (by decide))
      refine ex_al oq_X12_newName_42 rfl ?_
      refine ex_cv oq_X12_newName_43 (by decide) Th409 (k := 111) (d := 12) (as := []) (stk := []) rfl rfl rfl rfl rfl rfl ⟨rfl, rfl⟩ (R := fun o => ∃ hb : cv_H, o = (none, hb) ∧ cw_T G hb ∧ cw_Fr cw_Ds cw_sh kk_X12_token.2.2.2.2.2.1 h409 hb ∧ zR t n (zx t n p) hb) (rt_tok (t := t) (n := n) (p := zx t n p) (fun i hi => by rw [ht i hi, ← hA _ Fh409]) hn9 (fun i hi => by rw [hB _ Fh409]; exact hwr i hi) Th409 (zx_le (by omega)) (by omega) (by omega) (fun hb b1 b2 b3 => ⟨hb, rfl, b1, b2, b3⟩)) (fun o ho => ?_)
      obtain ⟨h410, rfl, Th410, Ch410, Zh410⟩ := ho
      show cw_X _ _ _ _ _ [] h410
      have Fh410 : cw_Fr cw_Ds cw_sh kk_X12_newName_1.2.2.2.2.2.1 h0 h410 := cw_Fr_tr Fh409 (cw_Fr_mono (by decide +kernel) Ch410)
      have eh410_4 : ri_at h410 111 4 = ri_at h409 111 4 := ri_frf Ch410 (d := 12) rfl rfl (by decide +kernel)
      have eh410_5 : ri_at h410 111 5 = ri_at h409 111 5 := ri_frf Ch410 (d := 12) rfl rfl (by decide +kernel)
      have eh410_11 : ri_at h410 111 11 = ri_at h409 111 11 := ri_frf Ch410 (d := 12) rfl rfl (by decide +kernel)
      refine ex_ic oq_X12_newName_46 (m := 1) (by decide) (fun x411 hx411 => ?_)
      have hr : ∀ i, ri_at h410 121 i = ri_at h409 121 i := fun i => ri_frr Ch410 (k := 121) (d := 60) rfl rfl (by decide +kernel)
      exact ex_retb oq_X12_newName_47 rfl (by omega) (by omega) (hQ x411 h410 Th410 Fh410 (.inl ⟨_, _, zm_ok (by omega) (by omega), zx_le (by omega), by omega, Zh410, by omega, by omega, fun k hk => by rw [hr, ri_ne wh409 (.inr (by omega))]; exact hl k hk, by rw [hr, ri_self wh409]; omega⟩))
    · refine ex_al oq_X12_newName_27 rfl ?_
      refine ex_ic oq_X12_newName_28 (m := 3) (by decide) (fun x412 hx412 => ?_)
      refine ex_cv oq_X12_newName_29 (by decide) hT (k := 111) (d := 12) (as := [cv_i x412]) (stk := []) rfl rfl rfl rfl rfl rfl ⟨rfl, rfl⟩ (R := fun o => ∃ (x : Int32) (hb : cv_H), o = (some (cv_i x), hb) ∧ cw_T G hb ∧ cw_Fr cw_Ds cw_sh kk_X12_wrong.2.2.2.2.2.1 h0 hb ∧ x.toInt = 0 ∧ ri_at hb 111 4 = x412.toInt ∧ ri_at hb 111 5 = ri_at h0 111 10) (rt_wrong hT x412 (fun x hb b1 b2 b3 b4 b5 => ⟨x, hb, rfl, b1, b2, b3, b4, b5⟩)) (fun o ho => ?_)
      obtain ⟨x413, h414, rfl, Th414, Ch414, zh414, fh414, ph414⟩ := ho
      show cw_X _ _ _ _ _ [cv_i x413] h414
      have Fh414 : cw_Fr cw_Ds cw_sh kk_X12_newName_1.2.2.2.2.2.1 h0 h414 := cw_Fr_tr Fh0 (cw_Fr_mono (by decide +kernel) Ch414)
      exact ex_retb oq_X12_newName_32 rfl (by omega) (by omega) (hQ x413 h414 Th414 Fh414 (.inr ⟨_, _, zm_3 (by omega) (by omega), by omega, by omega, by omega, by decide⟩))
  · refine ex_al oq_X12_newName_8 rfl ?_
    refine ex_ic oq_X12_newName_9 (m := 1) (by decide) (fun x415 hx415 => ?_)
    refine ex_cv oq_X12_newName_10 (by decide) hT (k := 111) (d := 12) (as := [cv_i x415]) (stk := []) rfl rfl rfl rfl rfl rfl ⟨rfl, rfl⟩ (R := fun o => ∃ (x : Int32) (hb : cv_H), o = (some (cv_i x), hb) ∧ cw_T G hb ∧ cw_Fr cw_Ds cw_sh kk_X12_wrong.2.2.2.2.2.1 h0 hb ∧ x.toInt = 0 ∧ ri_at hb 111 4 = x415.toInt ∧ ri_at hb 111 5 = ri_at h0 111 10) (rt_wrong hT x415 (fun x hb b1 b2 b3 b4 b5 => ⟨x, hb, rfl, b1, b2, b3, b4, b5⟩)) (fun o ho => ?_)
    obtain ⟨x416, h417, rfl, Th417, Ch417, zh417, fh417, ph417⟩ := ho
    show cw_X _ _ _ _ _ [cv_i x416] h417
    have Fh417 : cw_Fr cw_Ds cw_sh kk_X12_newName_1.2.2.2.2.2.1 h0 h417 := cw_Fr_tr Fh0 (cw_Fr_mono (by decide +kernel) Ch417)
    exact ex_retb oq_X12_newName_13 rfl (by omega) (by omega) (hQ x416 h417 Th417 Fh417 (.inr ⟨_, _, zm_1 (by omega), by omega, by omega, by omega, by decide⟩))
theorem rt_newNameC {h0 : cv_H} {n p : Nat} (ht : ∀ i, i < n → t i = ri_at h0 112 i) (hn9 : n ≤ 900) (hT : cw_T G h0) (hwr : ∀ i, i < 177 → ri_at h0 113 i = pp_words.getD i 0) (hpn : p ≤ n) (hz : zR t n p h0) {F M : Int32} {l : List Int} (hF : F.toInt = 6) (hM : M.toInt = l.length) (hlm : l.length < 6) (hl : ∀ k, k < l.length → ri_at h0 123 (6 + k) = l.getD k 0) (hQ : ∀ (x : Int32) h', cw_T G h' → cw_Fr cw_Ds cw_sh kk_X12_newName_2.2.2.2.2.2.1 h0 h' → zRe t n h0 h' x (zm t n l p) (fun v => (∀ k, k < l.length → ri_at h' 123 (6 + k) = l.getD k 0) ∧ ri_at h' 123 (6 + l.length) = v) → Q (some (cv_i x), h')) : cw_X X 175 Q 0 (cv_ent 0 [cv_r 111, cv_r 123, cv_i F, cv_i M]) [] h0 := by
  have Fh0 : cw_Fr cw_Ds cw_sh kk_X12_newName_2.2.2.2.2.2.1 h0 h0 := cw_Fr_refl
  have zxl := zx_le (t := t) hpn
  obtain ⟨z1, z2, z3, z4, z5⟩ := id hz
  have hA : ∀ h, cw_Fr cw_Ds cw_sh kk_X12_newName_2.2.2.2.2.2.1 h0 h → ∀ i, ri_at h 112 i = ri_at h0 112 i := fun h F i => ri_frr F (k := 112) (d := 51) rfl rfl (by decide +kernel)
  have hB : ∀ h, cw_Fr cw_Ds cw_sh kk_X12_newName_2.2.2.2.2.2.1 h0 h → ∀ i, ri_at h 113 i = ri_at h0 113 i := fun h F i => ri_frr F (k := 113) (d := 52) rfl rfl (by decide +kernel)
  refine ex_al oq_X12_newName_0 rfl ?_
  obtain ⟨x401, ax401, rx401, lx401, ux401⟩ := fi_kind hT
  refine ex_gf oq_X12_newName_1 hT (k := 111) (d := 12) rfl rfl ax401 ?_
  refine ex_ic oq_X12_newName_4 (m := 2) (by decide) (fun x402 hx402 => ?_)
  refine ex_if oq_X12_newName_5 (t := 14) rfl rfl (fun (c403 : x401.toInt = x402.toInt) => ?_) (fun (c403 : ¬ (x401.toInt = x402.toInt)) => ?_)
  · refine ex_al oq_X12_newName_14 rfl ?_
    refine ex_il oq_X12_newName_15 rfl ?_
    refine ex_il oq_X12_newName_16 rfl ?_
    refine ex_al oq_X12_newName_17 rfl ?_
    obtain ⟨x404, ax404, rx404, lx404, ux404⟩ := fi_which hT
    refine ex_gf oq_X12_newName_18 hT (k := 111) (d := 12) rfl rfl ax404 ?_
    refine ex_cs oq_X12_newName_21 (by decide) (as := [cv_r 123, cv_i F, cv_i M, cv_i x404]) (stk := []) rfl rfl rfl ⟨rfl, rfl⟩ (R := fun o => ∃ x : Int32, o = (some (cv_i x), h0) ∧ x.toInt = tz_find l x404.toInt 0) (rt_findC (f := 6) (l := l) hT (by omega) (by omega) (by omega) (fun k hk => hl k hk) (fun x q => ⟨x, rfl, q⟩)) (fun o ho => ?_)
    obtain ⟨x405, rfl, qx405⟩ := ho
    show cw_X _ _ _ _ _ [cv_i x405] h0
    rw [show x404.toInt = zw t n p from by omega] at qx405
    refine ex_if0 oq_X12_newName_24 (t := 33) rfl rfl (fun (c406 : x405.toInt < 0) => ?_) (fun (c406 : ¬ (x405.toInt < 0)) => ?_)
    · refine ex_al oq_X12_newName_33 rfl ?_
      refine ex_il oq_X12_newName_34 rfl ?_
      refine ex_il oq_X12_newName_35 rfl ?_
      refine ex_add oq_X12_newName_36 (by omega) (fun x407 hx407 => ?_)
      refine ex_al oq_X12_newName_37 rfl ?_
      obtain ⟨x408, ax408, rx408, lx408, ux408⟩ := fi_which hT
      refine ex_gf oq_X12_newName_38 hT (k := 111) (d := 12) rfl rfl ax408 ?_
      refine ex_iw1 oq_X12_newName_41 hT (k := 123) (d := 62) (j := 6 + l.length) rfl rfl (by omega) (by omega) ⟨(cw_i32 _).1, (cw_i32 _).2⟩ (fun h409 Th409 wh409 => ?_)
      have Fh409 : cw_Fr cw_Ds cw_sh kk_X12_newName_2.2.2.2.2.2.1 h0 h409 := cw_Fr_tr Fh0 (cw_Fr_wrr wh409 (k := 123) (d := 62) rfl rfl (by decide +kernel))
      have eh409_4 : ri_at h409 111 4 = ri_at h0 111 4 := ri_ne wh409 (.inl (by decide))
      have eh409_5 : ri_at h409 111 5 = ri_at h0 111 5 := ri_ne wh409 (.inl (by decide))
      have eh409_6 : ri_at h409 111 6 = ri_at h0 111 6 := ri_ne wh409 (.inl (by decide))
      have eh409_7 : ri_at h409 111 7 = ri_at h0 111 7 := ri_ne wh409 (.inl (by decide))
      have eh409_8 : ri_at h409 111 8 = ri_at h0 111 8 := ri_ne wh409 (.inl (by decide))
      have eh409_9 : ri_at h409 111 9 = ri_at h0 111 9 := ri_ne wh409 (.inl (by decide))
      have eh409_10 : ri_at h409 111 10 = ri_at h0 111 10 := ri_ne wh409 (.inl (by decide))
      have eh409_11 : ri_at h409 111 11 = ri_at h0 111 11 := ri_ne wh409 (.inl (by decide))
      refine ex_al oq_X12_newName_42 rfl ?_
      refine ex_cv oq_X12_newName_43 (by decide) Th409 (k := 111) (d := 12) (as := []) (stk := []) rfl rfl rfl rfl rfl rfl ⟨rfl, rfl⟩ (R := fun o => ∃ hb : cv_H, o = (none, hb) ∧ cw_T G hb ∧ cw_Fr cw_Ds cw_sh kk_X12_token.2.2.2.2.2.1 h409 hb ∧ zR t n (zx t n p) hb) (rt_tok (t := t) (n := n) (p := zx t n p) (fun i hi => by rw [ht i hi, ← hA _ Fh409]) hn9 (fun i hi => by rw [hB _ Fh409]; exact hwr i hi) Th409 (zx_le (by omega)) (by omega) (by omega) (fun hb b1 b2 b3 => ⟨hb, rfl, b1, b2, b3⟩)) (fun o ho => ?_)
      obtain ⟨h410, rfl, Th410, Ch410, Zh410⟩ := ho
      show cw_X _ _ _ _ _ [] h410
      have Fh410 : cw_Fr cw_Ds cw_sh kk_X12_newName_2.2.2.2.2.2.1 h0 h410 := cw_Fr_tr Fh409 (cw_Fr_mono (by decide +kernel) Ch410)
      have eh410_4 : ri_at h410 111 4 = ri_at h409 111 4 := ri_frf Ch410 (d := 12) rfl rfl (by decide +kernel)
      have eh410_5 : ri_at h410 111 5 = ri_at h409 111 5 := ri_frf Ch410 (d := 12) rfl rfl (by decide +kernel)
      have eh410_11 : ri_at h410 111 11 = ri_at h409 111 11 := ri_frf Ch410 (d := 12) rfl rfl (by decide +kernel)
      refine ex_ic oq_X12_newName_46 (m := 1) (by decide) (fun x411 hx411 => ?_)
      have hr : ∀ i, ri_at h410 123 i = ri_at h409 123 i := fun i => ri_frr Ch410 (k := 123) (d := 62) rfl rfl (by decide +kernel)
      exact ex_retb oq_X12_newName_47 rfl (by omega) (by omega) (hQ x411 h410 Th410 Fh410 (.inl ⟨_, _, zm_ok (by omega) (by omega), zx_le (by omega), by omega, Zh410, by omega, by omega, fun k hk => by rw [hr, ri_ne wh409 (.inr (by omega))]; exact hl k hk, by rw [hr, ri_self wh409]; omega⟩))
    · refine ex_al oq_X12_newName_27 rfl ?_
      refine ex_ic oq_X12_newName_28 (m := 3) (by decide) (fun x412 hx412 => ?_)
      refine ex_cv oq_X12_newName_29 (by decide) hT (k := 111) (d := 12) (as := [cv_i x412]) (stk := []) rfl rfl rfl rfl rfl rfl ⟨rfl, rfl⟩ (R := fun o => ∃ (x : Int32) (hb : cv_H), o = (some (cv_i x), hb) ∧ cw_T G hb ∧ cw_Fr cw_Ds cw_sh kk_X12_wrong.2.2.2.2.2.1 h0 hb ∧ x.toInt = 0 ∧ ri_at hb 111 4 = x412.toInt ∧ ri_at hb 111 5 = ri_at h0 111 10) (rt_wrong hT x412 (fun x hb b1 b2 b3 b4 b5 => ⟨x, hb, rfl, b1, b2, b3, b4, b5⟩)) (fun o ho => ?_)
      obtain ⟨x413, h414, rfl, Th414, Ch414, zh414, fh414, ph414⟩ := ho
      show cw_X _ _ _ _ _ [cv_i x413] h414
      have Fh414 : cw_Fr cw_Ds cw_sh kk_X12_newName_2.2.2.2.2.2.1 h0 h414 := cw_Fr_tr Fh0 (cw_Fr_mono (by decide +kernel) Ch414)
      exact ex_retb oq_X12_newName_32 rfl (by omega) (by omega) (hQ x413 h414 Th414 Fh414 (.inr ⟨_, _, zm_3 (by omega) (by omega), by omega, by omega, by omega, by decide⟩))
  · refine ex_al oq_X12_newName_8 rfl ?_
    refine ex_ic oq_X12_newName_9 (m := 1) (by decide) (fun x415 hx415 => ?_)
    refine ex_cv oq_X12_newName_10 (by decide) hT (k := 111) (d := 12) (as := [cv_i x415]) (stk := []) rfl rfl rfl rfl rfl rfl ⟨rfl, rfl⟩ (R := fun o => ∃ (x : Int32) (hb : cv_H), o = (some (cv_i x), hb) ∧ cw_T G hb ∧ cw_Fr cw_Ds cw_sh kk_X12_wrong.2.2.2.2.2.1 h0 hb ∧ x.toInt = 0 ∧ ri_at hb 111 4 = x415.toInt ∧ ri_at hb 111 5 = ri_at h0 111 10) (rt_wrong hT x415 (fun x hb b1 b2 b3 b4 b5 => ⟨x, hb, rfl, b1, b2, b3, b4, b5⟩)) (fun o ho => ?_)
    obtain ⟨x416, h417, rfl, Th417, Ch417, zh417, fh417, ph417⟩ := ho
    show cw_X _ _ _ _ _ [cv_i x416] h417
    have Fh417 : cw_Fr cw_Ds cw_sh kk_X12_newName_2.2.2.2.2.2.1 h0 h417 := cw_Fr_tr Fh0 (cw_Fr_mono (by decide +kernel) Ch417)
    exact ex_retb oq_X12_newName_13 rfl (by omega) (by omega) (hQ x416 h417 Th417 Fh417 (.inr ⟨_, _, zm_1 (by omega), by omega, by omega, by omega, by decide⟩))
end TZ
end
