/-! ===== numbers: what both sides take them for ===== -/
def zk (t : Nat → Int) (n p : Nat) : Int := (tz_T t n p).1
def zw (t : Nat → Int) (n p : Nat) : Int := (tz_T t n p).2.1
def zx (t : Nat → Int) (n p : Nat) : Nat := (tz_T t n p).2.2
def za (t : Nat → Int) (n p : Nat) : Nat := tz_at t n p
theorem zx_le {t : Nat → Int} {n p : Nat} (hp : p ≤ n) : zx t n p ≤ n := (tz_tk_ok (t := t) (n := n) (a := tz_at t n p) (tz_le hp)).1
theorem zx_ge {t : Nat → Int} {n p : Nat} (hp : p ≤ n) : p ≤ zx t n p := Nat.le_trans (tz_ge (c := tz_b t)) (tz_tk_ok (t := t) (n := n) (a := tz_at t n p) (tz_le hp)).2.1
theorem zx_gt {t : Nat → Int} {n p : Nat} (hp : p ≤ n) (hk : zk t n p ≠ 0) : p < zx t n p := Nat.lt_of_le_of_lt (tz_ge (c := tz_b t)) ((tz_tk_ok (t := t) (n := n) (a := tz_at t n p) (tz_le hp)).2.2.2.2.2.2.1 hk)
theorem zk_b {t : Nat → Int} {n p : Nat} (hp : p ≤ n) : 0 ≤ zk t n p ∧ zk t n p ≤ 6 := ⟨(tz_tk_ok (t := t) (n := n) (a := tz_at t n p) (tz_le hp)).2.2.2.2.1, (tz_tk_ok (t := t) (n := n) (a := tz_at t n p) (tz_le hp)).2.2.2.2.2.1⟩
theorem zw_1 {t : Nat → Int} {n p : Nat} (hp : p ≤ n) (hk : zk t n p = 1) : 0 ≤ zw t n p ∧ zw t n p ≤ 33 := (tz_tk_ok (t := t) (n := n) (a := tz_at t n p) (tz_le hp)).2.2.1 hk
theorem zw_3 {t : Nat → Int} {n p : Nat} (hp : p ≤ n) (hk : zk t n p = 3) : 0 ≤ zw t n p ∧ zw t n p ≤ 99999 := (tz_tk_ok (t := t) (n := n) (a := tz_at t n p) (tz_le hp)).2.2.2.2.2.2.2 hk
/-- the reference stands at the word behind p; the class stands there -/
def zR (t : Nat → Int) (n p : Nat) (h : cv_H) : Prop := ri_at h 111 6 = n ∧ ri_at h 111 10 = (za t n p : Nat) ∧ ri_at h 111 7 = (zx t n p : Nat) ∧ ri_at h 111 8 = zk t n p ∧ (zk t n p ≠ 0 → zk t n p ≠ 6 → ri_at h 111 9 = zw t n p)
def zC (t : Nat → Int) (n p : Nat) (h : cv_H) : Prop := ri_at h 51 2 = n ∧ ri_at h 51 5 = (za t n p : Nat) ∧ ri_at h 51 3 = (zx t n p : Nat) ∧ tz_rel (zk t n p) (zw t n p) (ri_at h 51 4) (ri_at h 51 6)
/-- a number between lo and hi: what goes wrong and where, or the number and the next place -/
def zn (t : Nat → Int) (n : Nat) (lo hi : Int) (p : Nat) : (Int × Nat) ⊕ (Int × Nat) := if zk t n p = 3 then (if lo ≤ zw t n p ∧ zw t n p ≤ hi then .inr (zw t n p, zx t n p) else .inl (2, za t n p)) else .inl (1, za t n p)
theorem zn_ok {t : Nat → Int} {n p : Nat} {lo hi : Int} (h1 : zk t n p = 3) (h2 : lo ≤ zw t n p) (h3 : zw t n p ≤ hi) : zn t n lo hi p = .inr (zw t n p, zx t n p) := by unfold zn; rw [if_pos h1, if_pos ⟨h2, h3⟩]
theorem zn_2 {t : Nat → Int} {n p : Nat} {lo hi : Int} (h1 : zk t n p = 3) (h2 : zw t n p < lo ∨ hi < zw t n p) : zn t n lo hi p = .inl (2, za t n p) := by unfold zn; rw [if_pos h1, if_neg (by omega)]
theorem zn_1 {t : Nat → Int} {n p : Nat} {lo hi : Int} (h1 : ¬ zk t n p = 3) : zn t n lo hi p = .inl (1, za t n p) := by unfold zn; rw [if_neg h1]
/-- the same with a sign before it -/
def zg (t : Nat → Int) (n : Nat) (hi : Int) (p : Nat) : (Int × Nat) ⊕ (Int × Nat) := if zk t n p = 4 ∧ zw t n p = 45 then (match zn t n 0 hi (zx t n p) with
  | .inl e => .inl e
  | .inr (v, q) => .inr (-v, q)) else zn t n 0 hi p
/-- the ends of a call that answers yes or no, on the reference's side -/
def zRe {α : Type} (t : Nat → Int) (n : Nat) (h h' : cv_H) (x : Int32) (z : (Int × Nat) ⊕ (α × Nat)) (D : α → Prop) : Prop :=
  (∃ v q, z = .inr (v, q) ∧ q ≤ n ∧ x.toInt = 1 ∧ zR t n q h' ∧ ri_at h' 111 4 = ri_at h 111 4 ∧ ri_at h' 111 5 = ri_at h 111 5 ∧ D v) ∨ (∃ f a, z = .inl (f, a) ∧ x.toInt = 0 ∧ ri_at h' 111 4 = f ∧ ri_at h' 111 5 = a ∧ 1 ≤ f)
section TZ
variable {G : Int} {X : cv_X} {Q : cv_O → Prop} {t : Nat → Int}
theorem rt_isIn {h : cv_H} (a b c : Int32) (hQ : ∀ x : Int32, (x.toInt = 1 ∧ b.toInt ≤ a.toInt ∧ a.toInt ≤ c.toInt ∨ x.toInt = 0 ∧ (a.toInt < b.toInt ∨ c.toInt < a.toInt)) → Q (some (cv_i x), h)) : cw_X X 156 Q 0 (cv_ent 0 [cv_i a, cv_i b, cv_i c]) [] h := by
  refine ex_il oq_X12_isIn_0 rfl ?_
  refine ex_il oq_X12_isIn_1 rfl ?_
  refine ex_if oq_X12_isIn_2 (t := 14) rfl rfl (fun (c1 : a.toInt < b.toInt) => ?_) (fun (c1 : ¬ (a.toInt < b.toInt)) => ?_)
  · refine ex_ic oq_X12_isIn_14 (m := 0) (by decide) (fun x2 hx2 => ?_)
    exact ex_retb oq_X12_isIn_15 rfl (by omega) (by omega) (hQ x2 (by omega))
  · refine ex_il oq_X12_isIn_5 rfl ?_
    refine ex_il oq_X12_isIn_6 rfl ?_
    refine ex_if oq_X12_isIn_7 (t := 14) rfl rfl (fun (c3 : c.toInt < a.toInt) => ?_) (fun (c3 : ¬ (c.toInt < a.toInt)) => ?_)
    · refine ex_ic oq_X12_isIn_14 (m := 0) (by decide) (fun x4 hx4 => ?_)
      exact ex_retb oq_X12_isIn_15 rfl (by omega) (by omega) (hQ x4 (by omega))
    · refine ex_ic oq_X12_isIn_10 (m := 1) (by decide) (fun x5 hx5 => ?_)
      refine ex_go oq_X12_isIn_11 (t := 15) rfl rfl ?_
      exact ex_retb oq_X12_isIn_15 rfl (by omega) (by omega) (hQ x5 (by omega))
theorem rt_wrong {h0 : cv_H} (hT : cw_T G h0) (f : Int32) (hQ : ∀ (x : Int32) h', cw_T G h' → cw_Fr cw_Ds cw_sh kk_X12_wrong.2.2.2.2.2.1 h0 h' → x.toInt = 0 → ri_at h' 111 4 = f.toInt → ri_at h' 111 5 = ri_at h0 111 10 → Q (some (cv_i x), h')) : cw_X X 159 Q 0 (cv_ent 0 [cv_r 111, cv_i f]) [] h0 := by
  have Fh0 : cw_Fr cw_Ds cw_sh kk_X12_wrong.2.2.2.2.2.1 h0 h0 := cw_Fr_refl
  refine ex_al oq_X12_wrong_0 rfl ?_
  refine ex_il oq_X12_wrong_1 rfl ?_
  refine ex_pfi oq_X12_wrong_2 hT (k := 111) (d := 12) rfl rfl rfl (cw_i32 _).1 (cw_i32 _).2 (fun h51 Th51 wh51 => ?_)
  have Fh51 : cw_Fr cw_Ds cw_sh kk_X12_wrong.2.2.2.2.2.1 h0 h51 := cw_Fr_tr Fh0 (cw_Fr_wrf wh51 (k := 111) (d := 12) rfl rfl (by decide +kernel))
  have eh51_4 : ri_at h51 111 4 = f.toInt := ri_self wh51
  have eh51_5 : ri_at h51 111 5 = ri_at h0 111 5 := ri_ne wh51 (by decide)
  have eh51_6 : ri_at h51 111 6 = ri_at h0 111 6 := ri_ne wh51 (by decide)
  have eh51_7 : ri_at h51 111 7 = ri_at h0 111 7 := ri_ne wh51 (by decide)
  have eh51_8 : ri_at h51 111 8 = ri_at h0 111 8 := ri_ne wh51 (by decide)
  have eh51_9 : ri_at h51 111 9 = ri_at h0 111 9 := ri_ne wh51 (by decide)
  have eh51_10 : ri_at h51 111 10 = ri_at h0 111 10 := ri_ne wh51 (by decide)
  have eh51_11 : ri_at h51 111 11 = ri_at h0 111 11 := ri_ne wh51 (by decide)
  refine ex_al oq_X12_wrong_5 rfl ?_
  refine ex_al oq_X12_wrong_6 rfl ?_
  obtain ⟨x52, ax52, rx52, lx52, ux52⟩ := fi_at Th51
  refine ex_gf oq_X12_wrong_7 Th51 (k := 111) (d := 12) rfl rfl ax52 ?_
  refine ex_pfi oq_X12_wrong_10 Th51 (k := 111) (d := 12) rfl rfl rfl (cw_i32 _).1 (cw_i32 _).2 (fun h53 Th53 wh53 => ?_)
  have Fh53 : cw_Fr cw_Ds cw_sh kk_X12_wrong.2.2.2.2.2.1 h0 h53 := cw_Fr_tr Fh51 (cw_Fr_wrf wh53 (k := 111) (d := 12) rfl rfl (by decide +kernel))
  have eh53_4 : ri_at h53 111 4 = ri_at h51 111 4 := ri_ne wh53 (by decide)
  have eh53_5 : ri_at h53 111 5 = x52.toInt := ri_self wh53
  have eh53_6 : ri_at h53 111 6 = ri_at h51 111 6 := ri_ne wh53 (by decide)
  have eh53_7 : ri_at h53 111 7 = ri_at h51 111 7 := ri_ne wh53 (by decide)
  have eh53_8 : ri_at h53 111 8 = ri_at h51 111 8 := ri_ne wh53 (by decide)
  have eh53_9 : ri_at h53 111 9 = ri_at h51 111 9 := ri_ne wh53 (by decide)
  have eh53_10 : ri_at h53 111 10 = ri_at h51 111 10 := ri_ne wh53 (by decide)
  have eh53_11 : ri_at h53 111 11 = ri_at h51 111 11 := ri_ne wh53 (by decide)
  refine ex_ic oq_X12_wrong_13 (m := 0) (by decide) (fun x54 hx54 => ?_)
  exact ex_retb oq_X12_wrong_14 rfl (by omega) (by omega) (hQ x54 h53 Th53 Fh53 (by omega) (by omega) (by omega))
theorem rt_tok {h0 : cv_H} {n p : Nat} (ht : ∀ i, i < n → t i = ri_at h0 112 i) (hn9 : n ≤ 900) (hwr : ∀ i, i < 177 → ri_at h0 113 i = pp_words.getD i 0) (hT : cw_T G h0) (hpn : p ≤ n) (hs : ri_at h0 111 6 = n) (hx : ri_at h0 111 7 = p) (hQ : ∀ h', cw_T G h' → cw_Fr cw_Ds cw_sh kk_X12_token.2.2.2.2.2.1 h0 h' → zR t n p h' → Q (none, h')) : cw_X X 163 Q 0 (cv_ent 0 [cv_r 111]) [] h0 :=
  rt_tokenL ht hn9 hwr (fun h' b1 b2 b3 b4 b5 b6 b7 => hQ h' b1 b2 ⟨b3, b4, b5, b6, b7⟩) (n - p) p h0 rfl hT cw_Fr_refl hs hpn hx rfl
theorem rt_number {h0 : cv_H} {n p : Nat} (ht : ∀ i, i < n → t i = ri_at h0 112 i) (hn9 : n ≤ 900) (hT : cw_T G h0) (hwr : ∀ i, i < 177 → ri_at h0 113 i = pp_words.getD i 0) (hpn : p ≤ n) (hz : zR t n p h0) (lo hi : Int32) (hQ : ∀ (x : Int32) h', cw_T G h' → cw_Fr cw_Ds cw_sh kk_X12_number.2.2.2.2.2.1 h0 h' → zRe t n h0 h' x (zn t n lo.toInt hi.toInt p) (fun v => ri_at h' 111 11 = v) → Q (some (cv_i x), h')) : cw_X X 168 Q 0 (cv_ent 0 [cv_r 111, cv_i lo, cv_i hi]) [] h0 := by
  have Fh0 : cw_Fr cw_Ds cw_sh kk_X12_number.2.2.2.2.2.1 h0 h0 := cw_Fr_refl
  obtain ⟨z1, z2, z3, z4, z5⟩ := hz
  have zb := zk_b (t := t) hpn
  have hA : ∀ h, cw_Fr cw_Ds cw_sh kk_X12_number.2.2.2.2.2.1 h0 h → ∀ i, ri_at h 112 i = ri_at h0 112 i := fun h F i => ri_frr F (k := 112) (d := 51) rfl rfl (by decide +kernel)
  have hB : ∀ h, cw_Fr cw_Ds cw_sh kk_X12_number.2.2.2.2.2.1 h0 h → ∀ i, ri_at h 113 i = ri_at h0 113 i := fun h F i => ri_frr F (k := 113) (d := 52) rfl rfl (by decide +kernel)
  refine ex_al oq_X12_number_0 rfl ?_
  obtain ⟨x101, ax101, rx101, lx101, ux101⟩ := fi_kind hT
  refine ex_gf oq_X12_number_1 hT (k := 111) (d := 12) rfl rfl ax101 ?_
  refine ex_ic oq_X12_number_4 (m := 3) (by decide) (fun x102 hx102 => ?_)
  refine ex_if oq_X12_number_5 (t := 14) rfl rfl (fun (c103 : x101.toInt = x102.toInt) => ?_) (fun (c103 : ¬ (x101.toInt = x102.toInt)) => ?_)
  · refine ex_al oq_X12_number_14 rfl ?_
    obtain ⟨x104, ax104, rx104, lx104, ux104⟩ := fi_which hT
    refine ex_gf oq_X12_number_15 hT (k := 111) (d := 12) rfl rfl ax104 ?_
    refine ex_il oq_X12_number_18 rfl ?_
    refine ex_il oq_X12_number_19 rfl ?_
    refine ex_cs oq_X12_number_20 (by decide) (as := [cv_i x104, cv_i lo, cv_i hi]) (stk := []) rfl rfl rfl ⟨rfl, rfl⟩ (R := fun o => ∃ x : Int32, o = (some (cv_i x), h0) ∧ (x.toInt = 1 ∧ lo.toInt ≤ x104.toInt ∧ x104.toInt ≤ hi.toInt ∨ x.toInt = 0 ∧ (x104.toInt < lo.toInt ∨ hi.toInt < x104.toInt))) (rt_isIn x104 lo hi (fun x q => ⟨x, rfl, q⟩)) (fun o ho => ?_)
    obtain ⟨x105, rfl, dx105⟩ := ho
    show cw_X _ _ _ _ _ [cv_i x105] h0
    refine ex_if0 oq_X12_number_23 (t := 32) rfl rfl (fun (c106 : ¬ x105.toInt = 0) => ?_) (fun (c106 : ¬ (¬ x105.toInt = 0)) => ?_)
    · refine ex_al oq_X12_number_32 rfl ?_
      refine ex_al oq_X12_number_33 rfl ?_
      obtain ⟨x107, ax107, rx107, lx107, ux107⟩ := fi_which hT
      refine ex_gf oq_X12_number_34 hT (k := 111) (d := 12) rfl rfl ax107 ?_
      refine ex_pfi oq_X12_number_37 hT (k := 111) (d := 12) rfl rfl rfl (cw_i32 _).1 (cw_i32 _).2 (fun h108 Th108 wh108 => ?_)
      have Fh108 : cw_Fr cw_Ds cw_sh kk_X12_number.2.2.2.2.2.1 h0 h108 := cw_Fr_tr Fh0 (cw_Fr_wrf wh108 (k := 111) (d := 12) rfl rfl (by decide +kernel))
      have eh108_4 : ri_at h108 111 4 = ri_at h0 111 4 := ri_ne wh108 (by decide)
      have eh108_5 : ri_at h108 111 5 = ri_at h0 111 5 := ri_ne wh108 (by decide)
      have eh108_6 : ri_at h108 111 6 = ri_at h0 111 6 := ri_ne wh108 (by decide)
      have eh108_7 : ri_at h108 111 7 = ri_at h0 111 7 := ri_ne wh108 (by decide)
      have eh108_8 : ri_at h108 111 8 = ri_at h0 111 8 := ri_ne wh108 (by decide)
      have eh108_9 : ri_at h108 111 9 = ri_at h0 111 9 := ri_ne wh108 (by decide)
      have eh108_10 : ri_at h108 111 10 = ri_at h0 111 10 := ri_ne wh108 (by decide)
      have eh108_11 : ri_at h108 111 11 = x107.toInt := ri_self wh108
      refine ex_al oq_X12_number_40 rfl ?_
      refine ex_cv oq_X12_number_41 (by decide) Th108 (k := 111) (d := 12) (as := []) (stk := []) rfl rfl rfl rfl rfl rfl ⟨rfl, rfl⟩ (R := fun o => ∃ hb : cv_H, o = (none, hb) ∧ cw_T G hb ∧ cw_Fr cw_Ds cw_sh kk_X12_token.2.2.2.2.2.1 h108 hb ∧ zR t n (zx t n p) hb) (rt_tok (t := t) (n := n) (p := zx t n p) (fun i hi => by rw [ht i hi, ← hA _ Fh108]) hn9 (fun i hi => by rw [hB _ Fh108]; exact hwr i hi) Th108 (zx_le (by omega)) (by omega) (by omega) (fun hb b1 b2 b3 => ⟨hb, rfl, b1, b2, b3⟩)) (fun o ho => ?_)
      obtain ⟨h109, rfl, Th109, Ch109, Zh109⟩ := ho
      show cw_X _ _ _ _ _ [] h109
      have Fh109 : cw_Fr cw_Ds cw_sh kk_X12_number.2.2.2.2.2.1 h0 h109 := cw_Fr_tr Fh108 (cw_Fr_mono (by decide +kernel) Ch109)
      have eh109_4 : ri_at h109 111 4 = ri_at h108 111 4 := ri_frf Ch109 (d := 12) rfl rfl (by decide +kernel)
      have eh109_5 : ri_at h109 111 5 = ri_at h108 111 5 := ri_frf Ch109 (d := 12) rfl rfl (by decide +kernel)
      have eh109_11 : ri_at h109 111 11 = ri_at h108 111 11 := ri_frf Ch109 (d := 12) rfl rfl (by decide +kernel)
      refine ex_ic oq_X12_number_44 (m := 1) (by decide) (fun x110 hx110 => ?_)
      exact ex_retb oq_X12_number_45 rfl (by omega) (by omega) (hQ x110 h109 Th109 Fh109 (.inl ⟨_, _, zn_ok (by omega) (by omega) (by omega), zx_le (by omega), by omega, Zh109, by omega, by omega, by omega⟩))
    · refine ex_al oq_X12_number_26 rfl ?_
      refine ex_ic oq_X12_number_27 (m := 2) (by decide) (fun x111 hx111 => ?_)
      refine ex_cv oq_X12_number_28 (by decide) hT (k := 111) (d := 12) (as := [cv_i x111]) (stk := []) rfl rfl rfl rfl rfl rfl ⟨rfl, rfl⟩ (R := fun o => ∃ (x : Int32) (hb : cv_H), o = (some (cv_i x), hb) ∧ cw_T G hb ∧ cw_Fr cw_Ds cw_sh kk_X12_wrong.2.2.2.2.2.1 h0 hb ∧ x.toInt = 0 ∧ ri_at hb 111 4 = x111.toInt ∧ ri_at hb 111 5 = ri_at h0 111 10) (rt_wrong hT x111 (fun x hb b1 b2 b3 b4 b5 => ⟨x, hb, rfl, b1, b2, b3, b4, b5⟩)) (fun o ho => ?_)
      obtain ⟨x112, h113, rfl, Th113, Ch113, zh113, fh113, ph113⟩ := ho
      show cw_X _ _ _ _ _ [cv_i x112] h113
      have Fh113 : cw_Fr cw_Ds cw_sh kk_X12_number.2.2.2.2.2.1 h0 h113 := cw_Fr_tr Fh0 (cw_Fr_mono (by decide +kernel) Ch113)
      exact ex_retb oq_X12_number_31 rfl (by omega) (by omega) (hQ x112 h113 Th113 Fh113 (.inr ⟨_, _, zn_2 (by omega) (by omega), by omega, by omega, by omega, by decide⟩))
  · refine ex_al oq_X12_number_8 rfl ?_
    refine ex_ic oq_X12_number_9 (m := 1) (by decide) (fun x114 hx114 => ?_)
    refine ex_cv oq_X12_number_10 (by decide) hT (k := 111) (d := 12) (as := [cv_i x114]) (stk := []) rfl rfl rfl rfl rfl rfl ⟨rfl, rfl⟩ (R := fun o => ∃ (x : Int32) (hb : cv_H), o = (some (cv_i x), hb) ∧ cw_T G hb ∧ cw_Fr cw_Ds cw_sh kk_X12_wrong.2.2.2.2.2.1 h0 hb ∧ x.toInt = 0 ∧ ri_at hb 111 4 = x114.toInt ∧ ri_at hb 111 5 = ri_at h0 111 10) (rt_wrong hT x114 (fun x hb b1 b2 b3 b4 b5 => ⟨x, hb, rfl, b1, b2, b3, b4, b5⟩)) (fun o ho => ?_)
    obtain ⟨x115, h116, rfl, Th116, Ch116, zh116, fh116, ph116⟩ := ho
    show cw_X _ _ _ _ _ [cv_i x115] h116
    have Fh116 : cw_Fr cw_Ds cw_sh kk_X12_number.2.2.2.2.2.1 h0 h116 := cw_Fr_tr Fh0 (cw_Fr_mono (by decide +kernel) Ch116)
    exact ex_retb oq_X12_number_13 rfl (by omega) (by omega) (hQ x115 h116 Th116 Fh116 (.inr ⟨_, _, zn_1 (by omega), by omega, by omega, by omega, by decide⟩))
end TZ
