/-! ===== what a gate has: the reference ===== -/
/-- a part of a gate behind its word: the causes told so far and the next place -/
def zhs (t : Nat → Int) (n : Nat) (hh : Int) (cn : List Int) (w : Int) (cm : Nat) (p : Nat) : (Int × Nat) ⊕ (Nat × Nat) :=
  if w = 0 then zb2 (zhk t n hh p) fun _ q => .inr (cm, q) else
  if w = 1 then zb2 (zn t n 12 60 p) fun _ p1 => zb2 (zns t n 3 14 1 p1) fun _ q => .inr (cm, q) else
  if w = 2 then (if zk t n p = 1 ∧ (zw t n p = 28 ∨ zw t n p = 29) then .inr (cm, zx t n p) else .inl (1, za t n p)) else
  if w = 3 then zb2 (zns t n 0 9999 2 p) fun _ q => .inr (cm, q) else
  if w = 4 then zb2 (zns t n 0 9999 1 p) fun _ q => .inr (cm, q) else
  if w = 5 then zb2 (zns t n 0 200 9 p) fun _ q => .inr (cm, q) else
  if w = 6 then zcr t n cn cm p else zb2 (zns t n 0 200 1 p) fun _ q => .inr (cm, q)
theorem zn_ge {t : Nat → Int} {n p : Nat} {lo hi v : Int} {q : Nat} (hp : p ≤ n) (e : zn t n lo hi p = .inr (v, q)) : p ≤ q ∧ q ≤ n := by
  by_cases h1 : zk t n p = 3
  · by_cases h2 : lo ≤ zw t n p ∧ zw t n p ≤ hi
    · rw [zn_ok h1 h2.1 h2.2] at e; cases e; exact ⟨zx_ge hp, zx_le hp⟩
    · rw [zn_2 h1 (by omega)] at e; cases e
  · rw [zn_1 h1] at e; cases e
theorem zg_ge {t : Nat → Int} {n p : Nat} {hi v : Int} {q : Nat} (hp : p ≤ n) (e : zg t n hi p = .inr (v, q)) : p ≤ q ∧ q ≤ n := by
  by_cases c : zk t n p = 4 ∧ zw t n p = 45
  · cases e1 : zn t n 0 hi (zx t n p) with
    | inl b => rw [zg_me c e1] at e; cases e
    | inr b =>
      obtain ⟨v1, q1⟩ := b
      rw [zg_m c e1] at e
      have := zn_ge (zx_le hp) e1
      have := zx_ge (t := t) hp
      cases e
      omega
  · rw [zg_p c] at e
    exact zn_ge hp e
theorem zns_ge {t : Nat → Int} {n : Nat} {lo hi : Int} : ∀ (k p : Nat) (vs : List Int) (q : Nat), p ≤ n → zns t n lo hi k p = .inr (vs, q) → p ≤ q ∧ q ≤ n
  | 0, p, vs, q, hp, e => by simp only [zns, Sum.inr.injEq, Prod.mk.injEq] at e; omega
  | k + 1, p, vs, q, hp, e => by
    unfold zns at e
    cases e1 : zn t n lo hi p with
    | inl b => rw [e1] at e; cases e
    | inr b =>
      obtain ⟨v1, q1⟩ := b
      rw [e1] at e
      have h1 := zn_ge hp e1
      cases e2 : zns t n lo hi k q1 with
      | inl b => simp only [e2] at e; cases e
      | inr b =>
        obtain ⟨v2, q2⟩ := b
        simp only [e2] at e
        have h2 := zns_ge k q1 v2 q2 h1.2 e2
        cases e
        omega
theorem zb2_e {α β : Type} {S : (Int × Nat) ⊕ (α × Nat)} {f : α → Nat → (Int × Nat) ⊕ β} {r : β} (h : zb2 S f = .inr r) : ∃ v q, S = .inr (v, q) ∧ f v q = .inr r := by
  cases S with
  | inl e => cases h
  | inr b => obtain ⟨v, q⟩ := b; exact ⟨v, q, rfl, h⟩
theorem zhk_ge {t : Nat → Int} {n p : Nat} {hh v : Int} {q : Nat} (hp : p ≤ n) (e : zhk t n hh p = .inr (v, q)) : p ≤ q ∧ q ≤ n := by
  unfold zhk at e
  obtain ⟨v1, q1, e1, e⟩ := zb2_e e
  obtain ⟨v2, q2, e2, e⟩ := zb2_e e
  obtain ⟨v3, q3, e3, e⟩ := zb2_e e
  obtain ⟨v4, q4, e4, e⟩ := zb2_e e
  have h1 := zn_ge hp e1
  have h2 := zn_ge h1.2 e2
  have h3 := zg_ge h2.2 e3
  have h4 := zg_ge h3.2 e4
  cases e
  omega
theorem zcr_ge {t : Nat → Int} {n p : Nat} {cn : List Int} {cm v : Nat} {q : Nat} (hp : p ≤ n) (e : zcr t n cn cm p = .inr (v, q)) : p ≤ q ∧ q ≤ n := by
  unfold zcr at e
  split at e
  · split at e
    · cases e
    · split at e
      · cases e
      · cases e; exact ⟨zx_ge hp, zx_le hp⟩
  · cases e
theorem zhs_ge {t : Nat → Int} {n p : Nat} {hh w : Int} {cn : List Int} {cm v : Nat} {q : Nat} (hp : p ≤ n) (e : zhs t n hh cn w cm p = .inr (v, q)) : p ≤ q ∧ q ≤ n := by
  have ns : ∀ {lo hi : Int} {k : Nat} {p : Nat}, p ≤ n → zb2 (zns t n lo hi k p) (fun _ q => Sum.inr (cm, q)) = .inr (v, q) → p ≤ q ∧ q ≤ n := by
    intro lo hi k p hp e
    obtain ⟨v1, q1, e1, e⟩ := zb2_e e
    have := zns_ge _ _ _ _ hp e1
    cases e
    exact this
  unfold zhs at e
  split at e
  · obtain ⟨v1, q1, e1, e⟩ := zb2_e e
    have := zhk_ge hp e1
    cases e
    exact this
  · split at e
    · obtain ⟨v1, q1, e1, e⟩ := zb2_e e
      have h1 := zn_ge hp e1
      have h2 := ns h1.2 e
      omega
    · split at e
      · split at e
        · cases e; exact ⟨zx_ge hp, zx_le hp⟩
        · cases e
      · split at e
        · exact ns hp e
        · split at e
          · exact ns hp e
          · split at e
            · exact ns hp e
            · split at e
              · exact zcr_ge hp e
              · exact ns hp e
section TZ
variable {G : Int} {X : cv_X} {Q : cv_O → Prop} {t : Nat → Int}
set_option maxHeartbeats 8000000 in
theorem rt_hasRead {h0 : cv_H} {n p : Nat} (ht : ∀ i, i < n → t i = ri_at h0 112 i) (hn9 : n ≤ 900) (hT : cw_T G h0) (hwr : ∀ i, i < 177 → ri_at h0 113 i = pp_words.getD i 0) (hpn : p ≤ n) (hz : zR t n p h0) {b : Nat} {g : Int32} (hg : g.toInt = b) (hb : b + 16 ≤ 128) {hh : Int} (hg1 : ri_at h0 119 (b + 1) = hh) (hh2 : 24 ≤ hh ∧ hh ≤ 72) {cm : Nat} (hg14 : ri_at h0 119 (b + 14) = cm) {cn : List Int} (hcc : ri_at h0 111 18 = cn.length) (hc6 : cn.length ≤ 6) (hcl : ∀ k, k < cn.length → ri_at h0 123 (6 + k) = cn.getD k 0) (hcm : cm < 64) {u : Nat} (hu : u ≤ 3) (hbu : b = 64 + 16 * u) (hgr : ri_at h0 111 16 = u) {w : Int32} (hw : 0 ≤ w.toInt ∧ w.toInt ≤ 7) (hQ : ∀ (x : Int32) h', cw_T G h' → cw_Fr cw_Ds cw_sh mk_gt h0 h' → zRe t n h0 h' x (zhs t n hh cn w.toInt cm p) (fun c' => ri_at h' 119 (b + 1) = hh ∧ c' < 64 ∧ ri_at h' 119 (b + 14) = c') → Q (some (cv_i x), h')) : cw_X X 180 Q 0 (cv_ent 0 [cv_r 111, cv_i g, cv_i w]) [] h0 := by
  have Fh0 : cw_Fr cw_Ds cw_sh mk_gt h0 h0 := cw_Fr_refl
  have zxl := zx_le (t := t) hpn
  obtain ⟨z1, z2, z3, z4, z5⟩ := id hz
  replace z5 := zhd_i z5
  have hA : ∀ h, cw_Fr cw_Ds cw_sh mk_gt h0 h → ∀ i, ri_at h 112 i = ri_at h0 112 i := fun h F i => ri_frr F (k := 112) (d := 51) rfl rfl (by decide +kernel)
  have hB : ∀ h, cw_Fr cw_Ds cw_sh mk_gt h0 h → ∀ i, ri_at h 113 i = ri_at h0 113 i := fun h F i => ri_frr F (k := 113) (d := 52) rfl rfl (by decide +kernel)
  refine ex_il oq_X12_hasRead_0 rfl ?_
  refine ex_tsw oq_X12_hasRead_1 rfl (fun c101 => ⟨rfl, ?_⟩) (fun i hi c101 => ?_)
  · show cw_X _ _ _ 213 _ _ _
    refine ex_al oq_X12_hasRead_213 rfl ?_
    refine ex_al oq_X12_hasRead_214 rfl ?_
    refine ex_gf oq_X12_hasRead_215 hT (k := 111) (d := 12) rfl rfl (fr_gateHas hT) ?_
    refine ex_il oq_X12_hasRead_218 rfl ?_
    refine ex_bi oq_X12_hasRead_219 (m := 12) (by decide) (fun x102 hx102 => ?_)
    refine ex_add oq_X12_hasRead_221 (by omega) (fun x103 hx103 => ?_)
    refine ex_ic oq_X12_hasRead_222 (m := 1) (by decide) (fun x104 hx104 => ?_)
    refine ex_ic oq_X12_hasRead_223 (m := 0) (by decide) (fun x105 hx105 => ?_)
    refine ex_si oq_X12_hasRead_224 (m := 200) (by decide) (fun x106 hx106 => ?_)
    refine ex_cv oq_X12_hasRead_227 (by decide) hT (k := 111) (d := 12) (as := [cv_r 119, cv_i x103, cv_i x104, cv_i x105, cv_i x106]) (stk := []) rfl rfl rfl rfl rfl rfl ⟨rfl, rfl⟩ (R := fun o => ∃ (x : Int32) (hb : cv_H), o = (some (cv_i x), hb) ∧ cw_T G hb ∧ cw_Fr cw_Ds cw_sh mk_gt h0 hb ∧ zRe t n h0 hb x (zns t n x105.toInt x106.toInt 1 p) (fun vs => (∀ i, i < 1 → ri_at hb 119 (b + 12 + i) = vs.getD i 0) ∧ ∀ i, (i < b + 12 ∨ b + 12 + 1 ≤ i) → ri_at hb 119 i = ri_at h0 119 i)) (rt_numbersH (t := t) (n := n) (p := p) (f := b + 12) (m := 1) hT (by omega) hz (fun i hi => by rw [ht i hi, ← hA _ Fh0]) hn9 (fun i hi => by rw [hB _ Fh0]; exact hwr i hi) (by omega) (by omega) (by omega) (by omega) (by omega) (fun x hb b1 b2 b3 => ⟨x, hb, rfl, b1, b2, b3⟩)) (fun o ho => ?_)
    obtain ⟨x107, h108, rfl, Th108, Ch108, dx107⟩ := ho
    show cw_X _ _ _ _ _ [cv_i x107] h108
    have Fh108 : cw_Fr cw_Ds cw_sh mk_gt h0 h108 := cw_Fr_tr Fh0 (cw_Fr_mono (by decide +kernel) Ch108)
    rw [hx105] at dx107
    rw [hx106] at dx107
    have eh108_111_16 : ri_at h108 111 16 = ri_at h0 111 16 := ri_frf Ch108 (d := 12) rfl rfl (by decide +kernel)
    have hx01 : 0 ≤ x107.toInt ∧ x107.toInt ≤ 1 := by rcases dx107 with ⟨v, q, e1, e2, e3, _⟩ | ⟨f, a, e1, e2, _⟩ <;> omega
    refine ex_retb oq_X12_hasRead_230 rfl hx01.1 hx01.2 (hQ x107 h108 Th108 Fh108 ?_)
    rcases dx107 with ⟨v, q, e1, e2, e3, e4, e5, e6, e7⟩ | ⟨f, a, e1, e2, e3, e4, e5⟩
    · exact .inl ⟨_, _, (by unfold zhs; rw [if_neg (by omega), if_neg (by omega), if_neg (by omega), if_neg (by omega), if_neg (by omega), if_neg (by omega), if_neg (by omega), zb2_r e1]), e2, e3, e4, e5, e6, (e7.2 (b + 1) (by omega)).trans hg1, hcm, (e7.2 (b + 14) (by omega)).trans hg14⟩
    · exact .inr ⟨_, _, (by unfold zhs; rw [if_neg (by omega), if_neg (by omega), if_neg (by omega), if_neg (by omega), if_neg (by omega), if_neg (by omega), if_neg (by omega), zb2_l e1]), e2, e3, e4, e5⟩
  · match i, hi, c101 with
    | 0, _, c101 =>
      refine ⟨rfl, ?_⟩
      show cw_X _ _ _ 44 _ _ _
      refine ex_al oq_X12_hasRead_44 rfl ?_
      refine ex_il oq_X12_hasRead_45 rfl ?_
      refine ex_cv oq_X12_hasRead_46 (by decide) hT (k := 111) (d := 12) (as := [cv_i g]) (stk := []) rfl rfl rfl rfl rfl rfl ⟨rfl, rfl⟩ (R := fun o => ∃ (x : Int32) (hb : cv_H), o = (some (cv_i x), hb) ∧ cw_T G hb ∧ cw_Fr cw_Ds cw_sh mk_gt h0 hb ∧ zRe t n h0 hb x (zhk t n hh p) (fun _ => ri_at hb 119 (b + 1) = hh ∧ ri_at hb 119 (b + 14) = cm)) (rt_hooksRead (t := t) (n := n) (p := p) (b := b) (hh := hh) (cm := cm) (fun i hi => by rw [ht i hi, ← hA _ Fh0]) hn9 hT (fun i hi => by rw [hB _ Fh0]; exact hwr i hi) (by omega) hz hg hb hg1 hh2 hg14 (fun x hb b1 b2 b3 => ⟨x, hb, rfl, b1, b2, b3⟩)) (fun o ho => ?_)
      obtain ⟨x109, h110, rfl, Th110, Ch110, dx109⟩ := ho
      show cw_X _ _ _ _ _ [cv_i x109] h110
      have Fh110 : cw_Fr cw_Ds cw_sh mk_gt h0 h110 := cw_Fr_tr Fh0 (cw_Fr_mono (by decide +kernel) Ch110)
      have eh110_111_16 : ri_at h110 111 16 = ri_at h0 111 16 := ri_frf Ch110 (d := 12) rfl rfl (by decide +kernel)
      have hx01 : 0 ≤ x109.toInt ∧ x109.toInt ≤ 1 := by rcases dx109 with ⟨v, q, e1, e2, e3, _⟩ | ⟨f, a, e1, e2, _⟩ <;> omega
      refine ex_retb oq_X12_hasRead_49 rfl hx01.1 hx01.2 (hQ x109 h110 Th110 Fh110 ?_)
      rcases dx109 with ⟨v, q, e1, e2, e3, e4, e5, e6, e7⟩ | ⟨f, a, e1, e2, e3, e4, e5⟩
      · exact .inl ⟨_, _, (by unfold zhs; rw [if_pos (by omega), zb2_r e1]), e2, e3, e4, e5, e6, e7.1, hcm, e7.2⟩
      · exact .inr ⟨_, _, (by unfold zhs; rw [if_pos (by omega), zb2_l e1]), e2, e3, e4, e5⟩
    | 1, _, c101 =>
      refine ⟨rfl, ?_⟩
      show cw_X _ _ _ 50 _ _ _
      refine ex_al oq_X12_hasRead_50 rfl ?_
      refine ex_bi oq_X12_hasRead_51 (m := 12) (by decide) (fun x111 hx111 => ?_)
      refine ex_bi oq_X12_hasRead_53 (m := 60) (by decide) (fun x112 hx112 => ?_)
      refine ex_cv oq_X12_hasRead_55 (by decide) hT (k := 111) (d := 12) (as := [cv_i x111, cv_i x112]) (stk := []) rfl rfl rfl rfl rfl rfl ⟨rfl, rfl⟩ (R := fun o => ∃ (x : Int32) (hb : cv_H), o = (some (cv_i x), hb) ∧ cw_T G hb ∧ cw_Fr cw_Ds cw_sh kk_X12_number.2.2.2.2.2.1 h0 hb ∧ zRe t n h0 hb x (zn t n x111.toInt x112.toInt p) (fun v => ri_at hb 111 11 = v)) (rt_number (t := t) (n := n) (p := p) (fun i hi => by rw [ht i hi, ← hA _ Fh0]) hn9 hT (fun i hi => by rw [hB _ Fh0]; exact hwr i hi) (by omega) hz x111 x112 (fun x hb b1 b2 b3 => ⟨x, hb, rfl, b1, b2, b3⟩)) (fun o ho => ?_)
      obtain ⟨x113, h114, rfl, Th114, Ch114, dx113⟩ := ho
      show cw_X _ _ _ _ _ [cv_i x113] h114
      have Fh114 : cw_Fr cw_Ds cw_sh mk_gt h0 h114 := cw_Fr_tr Fh0 (cw_Fr_mono (by decide +kernel) Ch114)
      rw [hx111] at dx113
      rw [hx112] at dx113
      have eh114_111_16 : ri_at h114 111 16 = ri_at h0 111 16 := ri_frf Ch114 (d := 12) rfl rfl (by decide +kernel)
      have eh114_r1 : ri_at h114 119 (b + 1) = hh := (ri_frq Ch114 (k := 119) (d := 58) rfl rfl (by decide) (by decide +kernel)).trans hg1
      have eh114_r14 : ri_at h114 119 (b + 14) = (cm : Int) := (ri_frq Ch114 (k := 119) (d := 58) rfl rfl (by decide) (by decide +kernel)).trans hg14
      refine ex_if0 oq_X12_hasRead_58 (t := 63) rfl rfl (fun (c115 : ¬ x113.toInt = 0) => ?_) (fun (c115 : ¬ (¬ x113.toInt = 0)) => ?_)
      · obtain ⟨v1, q1, e1_1, e1_2, ax113, Zh114, e1_5, e1_6, e1_7⟩ := zRe_yes dx113 c115
        clear dx113 c115
        obtain ⟨yah114, ybh114, ych114, ydh114, -⟩ := id Zh114
        have zlh114 := zx_le (t := t) (n := n) (p := q1) (by omega)
        have e1_8 := zn_rg e1_1
        refine ex_al oq_X12_hasRead_63 rfl ?_
        refine ex_gf oq_X12_hasRead_64 Th114 (k := 111) (d := 12) rfl rfl (fr_gateHas Th114) ?_
        refine ex_il oq_X12_hasRead_67 rfl ?_
        refine ex_bi oq_X12_hasRead_68 (m := 7) (by decide) (fun x116 hx116 => ?_)
        refine ex_add oq_X12_hasRead_70 (by omega) (fun x117 hx117 => ?_)
        refine ex_al oq_X12_hasRead_71 rfl ?_
        obtain ⟨x118, ax118, rx118, lx118, ux118⟩ := fi_got Th114
        refine ex_gf oq_X12_hasRead_72 Th114 (k := 111) (d := 12) rfl rfl ax118 ?_
        have rx118 := (rx118.symm.trans e1_7 : x118.toInt = v1)
        refine ex_iw oq_X12_hasRead_75 Th114 (k := 119) (d := 58) (j := b + 7) rfl rfl (by omega) (by omega) (fun r hr => gh_get hr _ (cw_i32 _)) (fun h119 Th119 wh119 => ?_)
        have Fh119 : cw_Fr cw_Ds cw_sh mk_gt h0 h119 := cw_Fr_tr Fh114 (cw_Fr_wrr wh119 (k := 119) (d := 58) rfl rfl (by decide +kernel))
        have eh119_111_4 : ri_at h119 111 4 = ri_at h0 111 4 := (ri_ne wh119 (.inl (by decide))).trans e1_5
        have eh119_111_5 : ri_at h119 111 5 = ri_at h0 111 5 := (ri_ne wh119 (.inl (by decide))).trans e1_6
        have eh119_111_6 : ri_at h119 111 6 = (n : Int) := (ri_ne wh119 (.inl (by decide))).trans yah114
        have eh119_111_7 : ri_at h119 111 7 = ((zx t n q1 : Nat) : Int) := (ri_ne wh119 (.inl (by decide))).trans ych114
        have eh119_111_8 : ri_at h119 111 8 = zk t n q1 := (ri_ne wh119 (.inl (by decide))).trans ydh114
        have eh119_111_10 : ri_at h119 111 10 = ((za t n q1 : Nat) : Int) := (ri_ne wh119 (.inl (by decide))).trans ybh114
        have eh119_111_11 : ri_at h119 111 11 = v1 := (ri_ne wh119 (.inl (by decide))).trans e1_7
        have eh119_111_16 : ri_at h119 111 16 = ri_at h0 111 16 := (ri_ne wh119 (.inl (by decide))).trans eh114_111_16
        clear eh114_111_16
        have eh119_r1 : ri_at h119 119 (b + 1) = hh := (ri_ne wh119 (.inr (by omega))).trans eh114_r1
        clear eh114_r1
        have eh119_r14 : ri_at h119 119 (b + 14) = (cm : Int) := (ri_ne wh119 (.inr (by omega))).trans eh114_r14
        clear eh114_r14
        have Zh119 := zR_wr wh119 Zh114 (.inl (by decide))
        refine ex_al oq_X12_hasRead_76 rfl ?_
        refine ex_al oq_X12_hasRead_77 rfl ?_
        refine ex_gf oq_X12_hasRead_78 Th119 (k := 111) (d := 12) rfl rfl (fr_gateHas Th119) ?_
        refine ex_il oq_X12_hasRead_81 rfl ?_
        refine ex_bi oq_X12_hasRead_82 (m := 8) (by decide) (fun x120 hx120 => ?_)
        refine ex_add oq_X12_hasRead_84 (by omega) (fun x121 hx121 => ?_)
        refine ex_ic oq_X12_hasRead_85 (m := 1) (by decide) (fun x122 hx122 => ?_)
        refine ex_ic oq_X12_hasRead_86 (m := 3) (by decide) (fun x123 hx123 => ?_)
        refine ex_bi oq_X12_hasRead_87 (m := 14) (by decide) (fun x124 hx124 => ?_)
        refine ex_cv oq_X12_hasRead_89 (by decide) Th119 (k := 111) (d := 12) (as := [cv_r 119, cv_i x121, cv_i x122, cv_i x123, cv_i x124]) (stk := []) rfl rfl rfl rfl rfl rfl ⟨rfl, rfl⟩ (R := fun o => ∃ (x : Int32) (hb : cv_H), o = (some (cv_i x), hb) ∧ cw_T G hb ∧ cw_Fr cw_Ds cw_sh mk_gt h119 hb ∧ zRe t n h119 hb x (zns t n x123.toInt x124.toInt 1 q1) (fun vs => (∀ i, i < 1 → ri_at hb 119 (b + 8 + i) = vs.getD i 0) ∧ ∀ i, (i < b + 8 ∨ b + 8 + 1 ≤ i) → ri_at hb 119 i = ri_at h119 119 i)) (rt_numbersH (t := t) (n := n) (p := q1) (f := b + 8) (m := 1) Th119 (by omega) Zh119 (fun i hi => by rw [ht i hi, ← hA _ Fh119]) hn9 (fun i hi => by rw [hB _ Fh119]; exact hwr i hi) (by omega) (by omega) (by omega) (by omega) (by omega) (fun x hb b1 b2 b3 => ⟨x, hb, rfl, b1, b2, b3⟩)) (fun o ho => ?_)
        obtain ⟨x125, h126, rfl, Th126, Ch126, dx125⟩ := ho
        show cw_X _ _ _ _ _ [cv_i x125] h126
        have Fh126 : cw_Fr cw_Ds cw_sh mk_gt h0 h126 := cw_Fr_tr Fh119 (cw_Fr_mono (by decide +kernel) Ch126)
        rw [hx123] at dx125
        rw [hx124] at dx125
        have eh126_111_16 : ri_at h126 111 16 = ri_at h0 111 16 := (ri_frf Ch126 (d := 12) rfl rfl (by decide +kernel)).trans eh119_111_16
        clear eh119_111_16
        have hx01 : 0 ≤ x125.toInt ∧ x125.toInt ≤ 1 := by rcases dx125 with ⟨v, q, e1, e2, e3, _⟩ | ⟨f, a, e1, e2, _⟩ <;> omega
        refine ex_retb oq_X12_hasRead_92 rfl hx01.1 hx01.2 (hQ x125 h126 Th126 Fh126 ?_)
        rcases dx125 with ⟨v, q, e1, e2, e3, e4, e5, e6, e7⟩ | ⟨f, a, e1, e2, e3, e4, e5⟩
        · exact .inl ⟨_, _, (by unfold zhs; rw [if_neg (by omega), if_pos (by omega), zb2_r e1_1, zb2_r e1]), e2, e3, e4, e5.trans eh119_111_4, e6.trans eh119_111_5, (e7.2 (b + 1) (by omega)).trans eh119_r1, hcm, (e7.2 (b + 14) (by omega)).trans eh119_r14⟩
        · exact .inr ⟨_, _, (by unfold zhs; rw [if_neg (by omega), if_pos (by omega), zb2_r e1_1, zb2_l e1]), e2, e3, e4, e5⟩
      · replace c115 : x113.toInt = 0 := by omega
        obtain ⟨fc2, fa2, e2_1, ax113, e2_3, e2_4, e2_5⟩ := zRe_no dx113 c115
        clear dx113
        refine ex_ic oq_X12_hasRead_61 (m := 0) (by decide) (fun x127 hx127 => ?_)
        exact ex_retb oq_X12_hasRead_62 rfl (by omega) (by omega) (hQ x127 h114 Th114 Fh114 (.inr ⟨_, _, (by unfold zhs; rw [if_neg (by omega), if_pos (by omega), zb2_l e2_1]), by omega, by omega, by omega, by omega⟩))
    | 2, _, c101 =>
      refine ⟨rfl, ?_⟩
      show cw_X _ _ _ 93 _ _ _
      refine ex_al oq_X12_hasRead_93 rfl ?_
      refine ex_bi oq_X12_hasRead_94 (m := 28) (by decide) (fun x128 hx128 => ?_)
      refine ex_cv oq_X12_hasRead_96 (by decide) hT (k := 111) (d := 12) (as := [cv_i x128]) (stk := []) rfl rfl rfl rfl rfl rfl ⟨rfl, rfl⟩ (R := fun o => ∃ x : Int32, o = (some (cv_i x), h0) ∧ (x.toInt = 1 ∧ zk t n p = 1 ∧ zw t n p = x128.toInt ∨ x.toInt = 0 ∧ ¬ (zk t n p = 1 ∧ zw t n p = x128.toInt))) (rt_isKey (t := t) (n := n) (p := p) hT (by exact hz) x128 (fun x q => ⟨x, rfl, q⟩)) (fun o ho => ?_)
      obtain ⟨x129, rfl, dx129⟩ := ho
      show cw_X _ _ _ _ _ [cv_i x129] h0
      rw [hx128] at dx129
      refine ex_if0 oq_X12_hasRead_99 (t := 117) rfl rfl (fun (c130 : ¬ x129.toInt = 0) => ?_) (fun (c130 : ¬ (¬ x129.toInt = 0)) => ?_)
      · obtain ⟨_, dx129, dx129b⟩ := isin_y dx129 c130
        refine ex_al oq_X12_hasRead_117 rfl ?_
        refine ex_gf oq_X12_hasRead_118 hT (k := 111) (d := 12) rfl rfl (fr_gateHas hT) ?_
        refine ex_il oq_X12_hasRead_121 rfl ?_
        refine ex_bi oq_X12_hasRead_122 (m := 9) (by decide) (fun x131 hx131 => ?_)
        refine ex_add oq_X12_hasRead_124 (by omega) (fun x132 hx132 => ?_)
        refine ex_al oq_X12_hasRead_125 rfl ?_
        refine ex_bi oq_X12_hasRead_126 (m := 28) (by decide) (fun x133 hx133 => ?_)
        refine ex_cv oq_X12_hasRead_128 (by decide) hT (k := 111) (d := 12) (as := [cv_i x133]) (stk := [cv_i x132, cv_r 119]) rfl rfl rfl rfl rfl rfl ⟨rfl, rfl⟩ (R := fun o => ∃ x : Int32, o = (some (cv_i x), h0) ∧ (x.toInt = 1 ∧ zk t n p = 1 ∧ zw t n p = x133.toInt ∨ x.toInt = 0 ∧ ¬ (zk t n p = 1 ∧ zw t n p = x133.toInt))) (rt_isKey (t := t) (n := n) (p := p) hT (by exact hz) x133 (fun x q => ⟨x, rfl, q⟩)) (fun o ho => ?_)
        obtain ⟨x134, rfl, dx134⟩ := ho
        show cw_X _ _ _ _ _ [cv_i x134, cv_i x132, cv_r 119] h0
        rw [hx133] at dx134
        refine ex_if0 oq_X12_hasRead_131 (t := 138) rfl rfl (fun (c135 : x134.toInt = 0) => ?_) (fun (c135 : ¬ (x134.toInt = 0)) => ?_)
        · replace dx134 := flag_n dx134 c135
          refine ex_ic oq_X12_hasRead_138 (m := 2) (by decide) (fun x136 hx136 => ?_)
          refine ex_iw oq_X12_hasRead_139 hT (k := 119) (d := 58) (j := b + 9) rfl rfl (by omega) (by omega) (fun r hr => gh_get hr _ (cw_i32 _)) (fun h137 Th137 wh137 => ?_)
          have Fh137 : cw_Fr cw_Ds cw_sh mk_gt h0 h137 := cw_Fr_tr Fh0 (cw_Fr_wrr wh137 (k := 119) (d := 58) rfl rfl (by decide +kernel))
          have eh137_111_4 : ri_at h137 111 4 = ri_at h0 111 4 := ri_ne wh137 (.inl (by decide))
          have eh137_111_5 : ri_at h137 111 5 = ri_at h0 111 5 := ri_ne wh137 (.inl (by decide))
          have eh137_111_6 : ri_at h137 111 6 = (n : Int) := (ri_ne wh137 (.inl (by decide))).trans z1
          have eh137_111_7 : ri_at h137 111 7 = ((zx t n p : Nat) : Int) := (ri_ne wh137 (.inl (by decide))).trans z3
          have eh137_111_8 : ri_at h137 111 8 = zk t n p := (ri_ne wh137 (.inl (by decide))).trans z4
          have eh137_111_10 : ri_at h137 111 10 = ((za t n p : Nat) : Int) := (ri_ne wh137 (.inl (by decide))).trans z2
          have eh137_111_11 : ri_at h137 111 11 = ri_at h0 111 11 := ri_ne wh137 (.inl (by decide))
          have eh137_111_16 : ri_at h137 111 16 = ri_at h0 111 16 := ri_ne wh137 (.inl (by decide))
          have eh137_r1 : ri_at h137 119 (b + 1) = hh := (ri_ne wh137 (.inr (by omega))).trans hg1
          have eh137_r14 : ri_at h137 119 (b + 14) = (cm : Int) := (ri_ne wh137 (.inr (by omega))).trans hg14
          have Zh137 := zR_wr wh137 hz (.inl (by decide))
          refine ex_al oq_X12_hasRead_140 rfl ?_
          refine ex_cv oq_X12_hasRead_141 (by decide) Th137 (k := 111) (d := 12) (as := []) (stk := []) rfl rfl rfl rfl rfl rfl ⟨rfl, rfl⟩ (R := fun o => ∃ hb : cv_H, o = (none, hb) ∧ cw_T G hb ∧ cw_Fr cw_Ds cw_sh kk_X12_token.2.2.2.2.2.1 h137 hb ∧ zR t n (zx t n p) hb) (rt_tok (t := t) (n := n) (p := (zx t n p)) (fun i hi => by rw [ht i hi, ← hA _ Fh137]) hn9 (fun i hi => by rw [hB _ Fh137]; exact hwr i hi) Th137 (zx_le (by omega)) (by omega) (by omega) (fun hb b1 b2 b3 => ⟨hb, rfl, b1, b2, b3⟩)) (fun o ho => ?_)
          obtain ⟨h138, rfl, Th138, Ch138, Zh138⟩ := ho
          show cw_X _ _ _ _ _ [] h138
          have Fh138 : cw_Fr cw_Ds cw_sh mk_gt h0 h138 := cw_Fr_tr Fh137 (cw_Fr_mono (by decide +kernel) Ch138)
          have eh138_111_4 : ri_at h138 111 4 = ri_at h0 111 4 := (ri_frf Ch138 (d := 12) rfl rfl (by decide +kernel)).trans eh137_111_4
          clear eh137_111_4
          have eh138_111_5 : ri_at h138 111 5 = ri_at h0 111 5 := (ri_frf Ch138 (d := 12) rfl rfl (by decide +kernel)).trans eh137_111_5
          clear eh137_111_5
          have eh138_111_11 : ri_at h138 111 11 = ri_at h0 111 11 := (ri_frf Ch138 (d := 12) rfl rfl (by decide +kernel)).trans eh137_111_11
          clear eh137_111_11
          have eh138_111_16 : ri_at h138 111 16 = ri_at h0 111 16 := (ri_frf Ch138 (d := 12) rfl rfl (by decide +kernel)).trans eh137_111_16
          clear eh137_111_16
          have eh138_r1 : ri_at h138 119 (b + 1) = hh := (ri_frq Ch138 (k := 119) (d := 58) rfl rfl (by decide) (by decide +kernel)).trans eh137_r1
          clear eh137_r1
          have eh138_r14 : ri_at h138 119 (b + 14) = (cm : Int) := (ri_frq Ch138 (k := 119) (d := 58) rfl rfl (by decide) (by decide +kernel)).trans eh137_r14
          clear eh137_r14
          obtain ⟨yah138, ybh138, ych138, ydh138, -⟩ := id Zh138
          have zlh138 := zx_le (t := t) (n := n) (p := (zx t n p)) (by omega)
          clear eh137_111_6 eh137_111_10 eh137_111_7 eh137_111_8
          refine ex_ic oq_X12_hasRead_144 (m := 1) (by decide) (fun x139 hx139 => ?_)
          exact ex_retb oq_X12_hasRead_145 rfl (by omega) (by omega) (hQ x139 h138 Th138 Fh138 (.inl ⟨_, _, (by unfold zhs; rw [if_neg (by omega), if_neg (by omega), if_pos (by omega), if_pos (by omega)]), by omega, by omega, Zh138, by omega, by omega, eh138_r1, hcm, eh138_r14⟩))
        · replace c135 : ¬ x134.toInt = 0 := by omega
          obtain ⟨_, dx134, dx134b⟩ := isin_y dx134 c135
          refine ex_ic oq_X12_hasRead_134 (m := 1) (by decide) (fun x140 hx140 => ?_)
          refine ex_go oq_X12_hasRead_135 (t := 139) rfl rfl ?_
          refine ex_iw oq_X12_hasRead_139 hT (k := 119) (d := 58) (j := b + 9) rfl rfl (by omega) (by omega) (fun r hr => gh_get hr _ (cw_i32 _)) (fun h141 Th141 wh141 => ?_)
          have Fh141 : cw_Fr cw_Ds cw_sh mk_gt h0 h141 := cw_Fr_tr Fh0 (cw_Fr_wrr wh141 (k := 119) (d := 58) rfl rfl (by decide +kernel))
          have eh141_111_4 : ri_at h141 111 4 = ri_at h0 111 4 := ri_ne wh141 (.inl (by decide))
          have eh141_111_5 : ri_at h141 111 5 = ri_at h0 111 5 := ri_ne wh141 (.inl (by decide))
          have eh141_111_6 : ri_at h141 111 6 = (n : Int) := (ri_ne wh141 (.inl (by decide))).trans z1
          have eh141_111_7 : ri_at h141 111 7 = ((zx t n p : Nat) : Int) := (ri_ne wh141 (.inl (by decide))).trans z3
          have eh141_111_8 : ri_at h141 111 8 = zk t n p := (ri_ne wh141 (.inl (by decide))).trans z4
          have eh141_111_10 : ri_at h141 111 10 = ((za t n p : Nat) : Int) := (ri_ne wh141 (.inl (by decide))).trans z2
          have eh141_111_11 : ri_at h141 111 11 = ri_at h0 111 11 := ri_ne wh141 (.inl (by decide))
          have eh141_111_16 : ri_at h141 111 16 = ri_at h0 111 16 := ri_ne wh141 (.inl (by decide))
          have eh141_r1 : ri_at h141 119 (b + 1) = hh := (ri_ne wh141 (.inr (by omega))).trans hg1
          have eh141_r14 : ri_at h141 119 (b + 14) = (cm : Int) := (ri_ne wh141 (.inr (by omega))).trans hg14
          have Zh141 := zR_wr wh141 hz (.inl (by decide))
          refine ex_al oq_X12_hasRead_140 rfl ?_
          refine ex_cv oq_X12_hasRead_141 (by decide) Th141 (k := 111) (d := 12) (as := []) (stk := []) rfl rfl rfl rfl rfl rfl ⟨rfl, rfl⟩ (R := fun o => ∃ hb : cv_H, o = (none, hb) ∧ cw_T G hb ∧ cw_Fr cw_Ds cw_sh kk_X12_token.2.2.2.2.2.1 h141 hb ∧ zR t n (zx t n p) hb) (rt_tok (t := t) (n := n) (p := (zx t n p)) (fun i hi => by rw [ht i hi, ← hA _ Fh141]) hn9 (fun i hi => by rw [hB _ Fh141]; exact hwr i hi) Th141 (zx_le (by omega)) (by omega) (by omega) (fun hb b1 b2 b3 => ⟨hb, rfl, b1, b2, b3⟩)) (fun o ho => ?_)
          obtain ⟨h142, rfl, Th142, Ch142, Zh142⟩ := ho
          show cw_X _ _ _ _ _ [] h142
          have Fh142 : cw_Fr cw_Ds cw_sh mk_gt h0 h142 := cw_Fr_tr Fh141 (cw_Fr_mono (by decide +kernel) Ch142)
          have eh142_111_4 : ri_at h142 111 4 = ri_at h0 111 4 := (ri_frf Ch142 (d := 12) rfl rfl (by decide +kernel)).trans eh141_111_4
          clear eh141_111_4
          have eh142_111_5 : ri_at h142 111 5 = ri_at h0 111 5 := (ri_frf Ch142 (d := 12) rfl rfl (by decide +kernel)).trans eh141_111_5
          clear eh141_111_5
          have eh142_111_11 : ri_at h142 111 11 = ri_at h0 111 11 := (ri_frf Ch142 (d := 12) rfl rfl (by decide +kernel)).trans eh141_111_11
          clear eh141_111_11
          have eh142_111_16 : ri_at h142 111 16 = ri_at h0 111 16 := (ri_frf Ch142 (d := 12) rfl rfl (by decide +kernel)).trans eh141_111_16
          clear eh141_111_16
          have eh142_r1 : ri_at h142 119 (b + 1) = hh := (ri_frq Ch142 (k := 119) (d := 58) rfl rfl (by decide) (by decide +kernel)).trans eh141_r1
          clear eh141_r1
          have eh142_r14 : ri_at h142 119 (b + 14) = (cm : Int) := (ri_frq Ch142 (k := 119) (d := 58) rfl rfl (by decide) (by decide +kernel)).trans eh141_r14
          clear eh141_r14
          obtain ⟨yah142, ybh142, ych142, ydh142, -⟩ := id Zh142
          have zlh142 := zx_le (t := t) (n := n) (p := (zx t n p)) (by omega)
          clear eh141_111_6 eh141_111_10 eh141_111_7 eh141_111_8
          refine ex_ic oq_X12_hasRead_144 (m := 1) (by decide) (fun x143 hx143 => ?_)
          exact ex_retb oq_X12_hasRead_145 rfl (by omega) (by omega) (hQ x143 h142 Th142 Fh142 (.inl ⟨_, _, (by unfold zhs; rw [if_neg (by omega), if_neg (by omega), if_pos (by omega), if_pos (by omega)]), by omega, by omega, Zh142, by omega, by omega, eh142_r1, hcm, eh142_r14⟩))
      · replace c130 : x129.toInt = 0 := by omega
        replace dx129 := flag_n dx129 c130
        refine ex_al oq_X12_hasRead_102 rfl ?_
        refine ex_bi oq_X12_hasRead_103 (m := 29) (by decide) (fun x144 hx144 => ?_)
        refine ex_cv oq_X12_hasRead_105 (by decide) hT (k := 111) (d := 12) (as := [cv_i x144]) (stk := []) rfl rfl rfl rfl rfl rfl ⟨rfl, rfl⟩ (R := fun o => ∃ x : Int32, o = (some (cv_i x), h0) ∧ (x.toInt = 1 ∧ zk t n p = 1 ∧ zw t n p = x144.toInt ∨ x.toInt = 0 ∧ ¬ (zk t n p = 1 ∧ zw t n p = x144.toInt))) (rt_isKey (t := t) (n := n) (p := p) hT (by exact hz) x144 (fun x q => ⟨x, rfl, q⟩)) (fun o ho => ?_)
        obtain ⟨x145, rfl, dx145⟩ := ho
        show cw_X _ _ _ _ _ [cv_i x145] h0
        rw [hx144] at dx145
        refine ex_if0 oq_X12_hasRead_108 (t := 117) rfl rfl (fun (c146 : ¬ x145.toInt = 0) => ?_) (fun (c146 : ¬ (¬ x145.toInt = 0)) => ?_)
        · obtain ⟨_, dx145, dx145b⟩ := isin_y dx145 c146
          refine ex_al oq_X12_hasRead_117 rfl ?_
          refine ex_gf oq_X12_hasRead_118 hT (k := 111) (d := 12) rfl rfl (fr_gateHas hT) ?_
          refine ex_il oq_X12_hasRead_121 rfl ?_
          refine ex_bi oq_X12_hasRead_122 (m := 9) (by decide) (fun x147 hx147 => ?_)
          refine ex_add oq_X12_hasRead_124 (by omega) (fun x148 hx148 => ?_)
          refine ex_al oq_X12_hasRead_125 rfl ?_
          refine ex_bi oq_X12_hasRead_126 (m := 28) (by decide) (fun x149 hx149 => ?_)
          refine ex_cv oq_X12_hasRead_128 (by decide) hT (k := 111) (d := 12) (as := [cv_i x149]) (stk := [cv_i x148, cv_r 119]) rfl rfl rfl rfl rfl rfl ⟨rfl, rfl⟩ (R := fun o => ∃ x : Int32, o = (some (cv_i x), h0) ∧ (x.toInt = 1 ∧ zk t n p = 1 ∧ zw t n p = x149.toInt ∨ x.toInt = 0 ∧ ¬ (zk t n p = 1 ∧ zw t n p = x149.toInt))) (rt_isKey (t := t) (n := n) (p := p) hT (by exact hz) x149 (fun x q => ⟨x, rfl, q⟩)) (fun o ho => ?_)
          obtain ⟨x150, rfl, dx150⟩ := ho
          show cw_X _ _ _ _ _ [cv_i x150, cv_i x148, cv_r 119] h0
          rw [hx149] at dx150
          refine ex_if0 oq_X12_hasRead_131 (t := 138) rfl rfl (fun (c151 : x150.toInt = 0) => ?_) (fun (c151 : ¬ (x150.toInt = 0)) => ?_)
          · replace dx150 := flag_n dx150 c151
            refine ex_ic oq_X12_hasRead_138 (m := 2) (by decide) (fun x152 hx152 => ?_)
            refine ex_iw oq_X12_hasRead_139 hT (k := 119) (d := 58) (j := b + 9) rfl rfl (by omega) (by omega) (fun r hr => gh_get hr _ (cw_i32 _)) (fun h153 Th153 wh153 => ?_)
            have Fh153 : cw_Fr cw_Ds cw_sh mk_gt h0 h153 := cw_Fr_tr Fh0 (cw_Fr_wrr wh153 (k := 119) (d := 58) rfl rfl (by decide +kernel))
            have eh153_111_4 : ri_at h153 111 4 = ri_at h0 111 4 := ri_ne wh153 (.inl (by decide))
            have eh153_111_5 : ri_at h153 111 5 = ri_at h0 111 5 := ri_ne wh153 (.inl (by decide))
            have eh153_111_6 : ri_at h153 111 6 = (n : Int) := (ri_ne wh153 (.inl (by decide))).trans z1
            have eh153_111_7 : ri_at h153 111 7 = ((zx t n p : Nat) : Int) := (ri_ne wh153 (.inl (by decide))).trans z3
            have eh153_111_8 : ri_at h153 111 8 = zk t n p := (ri_ne wh153 (.inl (by decide))).trans z4
            have eh153_111_10 : ri_at h153 111 10 = ((za t n p : Nat) : Int) := (ri_ne wh153 (.inl (by decide))).trans z2
            have eh153_111_11 : ri_at h153 111 11 = ri_at h0 111 11 := ri_ne wh153 (.inl (by decide))
            have eh153_111_16 : ri_at h153 111 16 = ri_at h0 111 16 := ri_ne wh153 (.inl (by decide))
            have eh153_r1 : ri_at h153 119 (b + 1) = hh := (ri_ne wh153 (.inr (by omega))).trans hg1
            have eh153_r14 : ri_at h153 119 (b + 14) = (cm : Int) := (ri_ne wh153 (.inr (by omega))).trans hg14
            have Zh153 := zR_wr wh153 hz (.inl (by decide))
            refine ex_al oq_X12_hasRead_140 rfl ?_
            refine ex_cv oq_X12_hasRead_141 (by decide) Th153 (k := 111) (d := 12) (as := []) (stk := []) rfl rfl rfl rfl rfl rfl ⟨rfl, rfl⟩ (R := fun o => ∃ hb : cv_H, o = (none, hb) ∧ cw_T G hb ∧ cw_Fr cw_Ds cw_sh kk_X12_token.2.2.2.2.2.1 h153 hb ∧ zR t n (zx t n p) hb) (rt_tok (t := t) (n := n) (p := (zx t n p)) (fun i hi => by rw [ht i hi, ← hA _ Fh153]) hn9 (fun i hi => by rw [hB _ Fh153]; exact hwr i hi) Th153 (zx_le (by omega)) (by omega) (by omega) (fun hb b1 b2 b3 => ⟨hb, rfl, b1, b2, b3⟩)) (fun o ho => ?_)
            obtain ⟨h154, rfl, Th154, Ch154, Zh154⟩ := ho
            show cw_X _ _ _ _ _ [] h154
            have Fh154 : cw_Fr cw_Ds cw_sh mk_gt h0 h154 := cw_Fr_tr Fh153 (cw_Fr_mono (by decide +kernel) Ch154)
            have eh154_111_4 : ri_at h154 111 4 = ri_at h0 111 4 := (ri_frf Ch154 (d := 12) rfl rfl (by decide +kernel)).trans eh153_111_4
            clear eh153_111_4
            have eh154_111_5 : ri_at h154 111 5 = ri_at h0 111 5 := (ri_frf Ch154 (d := 12) rfl rfl (by decide +kernel)).trans eh153_111_5
            clear eh153_111_5
            have eh154_111_11 : ri_at h154 111 11 = ri_at h0 111 11 := (ri_frf Ch154 (d := 12) rfl rfl (by decide +kernel)).trans eh153_111_11
            clear eh153_111_11
            have eh154_111_16 : ri_at h154 111 16 = ri_at h0 111 16 := (ri_frf Ch154 (d := 12) rfl rfl (by decide +kernel)).trans eh153_111_16
            clear eh153_111_16
            have eh154_r1 : ri_at h154 119 (b + 1) = hh := (ri_frq Ch154 (k := 119) (d := 58) rfl rfl (by decide) (by decide +kernel)).trans eh153_r1
            clear eh153_r1
            have eh154_r14 : ri_at h154 119 (b + 14) = (cm : Int) := (ri_frq Ch154 (k := 119) (d := 58) rfl rfl (by decide) (by decide +kernel)).trans eh153_r14
            clear eh153_r14
            obtain ⟨yah154, ybh154, ych154, ydh154, -⟩ := id Zh154
            have zlh154 := zx_le (t := t) (n := n) (p := (zx t n p)) (by omega)
            clear eh153_111_6 eh153_111_10 eh153_111_7 eh153_111_8
            refine ex_ic oq_X12_hasRead_144 (m := 1) (by decide) (fun x155 hx155 => ?_)
            exact ex_retb oq_X12_hasRead_145 rfl (by omega) (by omega) (hQ x155 h154 Th154 Fh154 (.inl ⟨_, _, (by unfold zhs; rw [if_neg (by omega), if_neg (by omega), if_pos (by omega), if_pos (by omega)]), by omega, by omega, Zh154, by omega, by omega, eh154_r1, hcm, eh154_r14⟩))
          · replace c151 : ¬ x150.toInt = 0 := by omega
            obtain ⟨_, dx150, dx150b⟩ := isin_y dx150 c151
            refine ex_ic oq_X12_hasRead_134 (m := 1) (by decide) (fun x156 hx156 => ?_)
            refine ex_go oq_X12_hasRead_135 (t := 139) rfl rfl ?_
            refine ex_iw oq_X12_hasRead_139 hT (k := 119) (d := 58) (j := b + 9) rfl rfl (by omega) (by omega) (fun r hr => gh_get hr _ (cw_i32 _)) (fun h157 Th157 wh157 => ?_)
            have Fh157 : cw_Fr cw_Ds cw_sh mk_gt h0 h157 := cw_Fr_tr Fh0 (cw_Fr_wrr wh157 (k := 119) (d := 58) rfl rfl (by decide +kernel))
            have eh157_111_4 : ri_at h157 111 4 = ri_at h0 111 4 := ri_ne wh157 (.inl (by decide))
            have eh157_111_5 : ri_at h157 111 5 = ri_at h0 111 5 := ri_ne wh157 (.inl (by decide))
            have eh157_111_6 : ri_at h157 111 6 = (n : Int) := (ri_ne wh157 (.inl (by decide))).trans z1
            have eh157_111_7 : ri_at h157 111 7 = ((zx t n p : Nat) : Int) := (ri_ne wh157 (.inl (by decide))).trans z3
            have eh157_111_8 : ri_at h157 111 8 = zk t n p := (ri_ne wh157 (.inl (by decide))).trans z4
            have eh157_111_10 : ri_at h157 111 10 = ((za t n p : Nat) : Int) := (ri_ne wh157 (.inl (by decide))).trans z2
            have eh157_111_11 : ri_at h157 111 11 = ri_at h0 111 11 := ri_ne wh157 (.inl (by decide))
            have eh157_111_16 : ri_at h157 111 16 = ri_at h0 111 16 := ri_ne wh157 (.inl (by decide))
            have eh157_r1 : ri_at h157 119 (b + 1) = hh := (ri_ne wh157 (.inr (by omega))).trans hg1
            have eh157_r14 : ri_at h157 119 (b + 14) = (cm : Int) := (ri_ne wh157 (.inr (by omega))).trans hg14
            have Zh157 := zR_wr wh157 hz (.inl (by decide))
            refine ex_al oq_X12_hasRead_140 rfl ?_
            refine ex_cv oq_X12_hasRead_141 (by decide) Th157 (k := 111) (d := 12) (as := []) (stk := []) rfl rfl rfl rfl rfl rfl ⟨rfl, rfl⟩ (R := fun o => ∃ hb : cv_H, o = (none, hb) ∧ cw_T G hb ∧ cw_Fr cw_Ds cw_sh kk_X12_token.2.2.2.2.2.1 h157 hb ∧ zR t n (zx t n p) hb) (rt_tok (t := t) (n := n) (p := (zx t n p)) (fun i hi => by rw [ht i hi, ← hA _ Fh157]) hn9 (fun i hi => by rw [hB _ Fh157]; exact hwr i hi) Th157 (zx_le (by omega)) (by omega) (by omega) (fun hb b1 b2 b3 => ⟨hb, rfl, b1, b2, b3⟩)) (fun o ho => ?_)
            obtain ⟨h158, rfl, Th158, Ch158, Zh158⟩ := ho
            show cw_X _ _ _ _ _ [] h158
            have Fh158 : cw_Fr cw_Ds cw_sh mk_gt h0 h158 := cw_Fr_tr Fh157 (cw_Fr_mono (by decide +kernel) Ch158)
            have eh158_111_4 : ri_at h158 111 4 = ri_at h0 111 4 := (ri_frf Ch158 (d := 12) rfl rfl (by decide +kernel)).trans eh157_111_4
            clear eh157_111_4
            have eh158_111_5 : ri_at h158 111 5 = ri_at h0 111 5 := (ri_frf Ch158 (d := 12) rfl rfl (by decide +kernel)).trans eh157_111_5
            clear eh157_111_5
            have eh158_111_11 : ri_at h158 111 11 = ri_at h0 111 11 := (ri_frf Ch158 (d := 12) rfl rfl (by decide +kernel)).trans eh157_111_11
            clear eh157_111_11
            have eh158_111_16 : ri_at h158 111 16 = ri_at h0 111 16 := (ri_frf Ch158 (d := 12) rfl rfl (by decide +kernel)).trans eh157_111_16
            clear eh157_111_16
            have eh158_r1 : ri_at h158 119 (b + 1) = hh := (ri_frq Ch158 (k := 119) (d := 58) rfl rfl (by decide) (by decide +kernel)).trans eh157_r1
            clear eh157_r1
            have eh158_r14 : ri_at h158 119 (b + 14) = (cm : Int) := (ri_frq Ch158 (k := 119) (d := 58) rfl rfl (by decide) (by decide +kernel)).trans eh157_r14
            clear eh157_r14
            obtain ⟨yah158, ybh158, ych158, ydh158, -⟩ := id Zh158
            have zlh158 := zx_le (t := t) (n := n) (p := (zx t n p)) (by omega)
            clear eh157_111_6 eh157_111_10 eh157_111_7 eh157_111_8
            refine ex_ic oq_X12_hasRead_144 (m := 1) (by decide) (fun x159 hx159 => ?_)
            exact ex_retb oq_X12_hasRead_145 rfl (by omega) (by omega) (hQ x159 h158 Th158 Fh158 (.inl ⟨_, _, (by unfold zhs; rw [if_neg (by omega), if_neg (by omega), if_pos (by omega), if_pos (by omega)]), by omega, by omega, Zh158, by omega, by omega, eh158_r1, hcm, eh158_r14⟩))
        · replace c146 : x145.toInt = 0 := by omega
          replace dx145 := flag_n dx145 c146
          refine ex_al oq_X12_hasRead_111 rfl ?_
          refine ex_ic oq_X12_hasRead_112 (m := 1) (by decide) (fun x160 hx160 => ?_)
          refine ex_cv oq_X12_hasRead_113 (by decide) hT (k := 111) (d := 12) (as := [cv_i x160]) (stk := []) rfl rfl rfl rfl rfl rfl ⟨rfl, rfl⟩ (R := fun o => ∃ (x : Int32) (hb : cv_H), o = (some (cv_i x), hb) ∧ cw_T G hb ∧ cw_Fr cw_Ds cw_sh kk_X12_wrong.2.2.2.2.2.1 h0 hb ∧ x.toInt = 0 ∧ ri_at hb 111 4 = x160.toInt ∧ ri_at hb 111 5 = ri_at h0 111 10) (rt_wrong hT x160 (fun x hb b1 b2 b3 b4 b5 => ⟨x, hb, rfl, b1, b2, b3, b4, b5⟩)) (fun o ho => ?_)
          obtain ⟨x161, h162, rfl, Th162, Ch162, zh162, fh162, ph162⟩ := ho
          show cw_X _ _ _ _ _ [cv_i x161] h162
          have Fh162 : cw_Fr cw_Ds cw_sh mk_gt h0 h162 := cw_Fr_tr Fh0 (cw_Fr_mono (by decide +kernel) Ch162)
          exact ex_retb oq_X12_hasRead_116 rfl (by omega) (by omega) (hQ x161 h162 Th162 Fh162 (.inr ⟨_, _, (by unfold zhs; rw [if_neg (by omega), if_neg (by omega), if_pos (by omega), if_neg (by omega)]), by omega, by omega, by omega, by decide⟩))
    | 3, _, c101 =>
      refine ⟨rfl, ?_⟩
      show cw_X _ _ _ 146 _ _ _
      refine ex_al oq_X12_hasRead_146 rfl ?_
      refine ex_al oq_X12_hasRead_147 rfl ?_
      refine ex_gf oq_X12_hasRead_148 hT (k := 111) (d := 12) rfl rfl (fr_gateHas hT) ?_
      refine ex_il oq_X12_hasRead_151 rfl ?_
      refine ex_bi oq_X12_hasRead_152 (m := 10) (by decide) (fun x163 hx163 => ?_)
      refine ex_add oq_X12_hasRead_154 (by omega) (fun x164 hx164 => ?_)
      refine ex_ic oq_X12_hasRead_155 (m := 2) (by decide) (fun x165 hx165 => ?_)
      refine ex_ic oq_X12_hasRead_156 (m := 0) (by decide) (fun x166 hx166 => ?_)
      refine ex_si oq_X12_hasRead_157 (m := 9999) (by decide) (fun x167 hx167 => ?_)
      refine ex_cv oq_X12_hasRead_160 (by decide) hT (k := 111) (d := 12) (as := [cv_r 119, cv_i x164, cv_i x165, cv_i x166, cv_i x167]) (stk := []) rfl rfl rfl rfl rfl rfl ⟨rfl, rfl⟩ (R := fun o => ∃ (x : Int32) (hb : cv_H), o = (some (cv_i x), hb) ∧ cw_T G hb ∧ cw_Fr cw_Ds cw_sh mk_gt h0 hb ∧ zRe t n h0 hb x (zns t n x166.toInt x167.toInt 2 p) (fun vs => (∀ i, i < 2 → ri_at hb 119 (b + 10 + i) = vs.getD i 0) ∧ ∀ i, (i < b + 10 ∨ b + 10 + 2 ≤ i) → ri_at hb 119 i = ri_at h0 119 i)) (rt_numbersH (t := t) (n := n) (p := p) (f := b + 10) (m := 2) hT (by omega) hz (fun i hi => by rw [ht i hi, ← hA _ Fh0]) hn9 (fun i hi => by rw [hB _ Fh0]; exact hwr i hi) (by omega) (by omega) (by omega) (by omega) (by omega) (fun x hb b1 b2 b3 => ⟨x, hb, rfl, b1, b2, b3⟩)) (fun o ho => ?_)
      obtain ⟨x168, h169, rfl, Th169, Ch169, dx168⟩ := ho
      show cw_X _ _ _ _ _ [cv_i x168] h169
      have Fh169 : cw_Fr cw_Ds cw_sh mk_gt h0 h169 := cw_Fr_tr Fh0 (cw_Fr_mono (by decide +kernel) Ch169)
      rw [hx166] at dx168
      rw [hx167] at dx168
      have eh169_111_16 : ri_at h169 111 16 = ri_at h0 111 16 := ri_frf Ch169 (d := 12) rfl rfl (by decide +kernel)
      have hx01 : 0 ≤ x168.toInt ∧ x168.toInt ≤ 1 := by rcases dx168 with ⟨v, q, e1, e2, e3, _⟩ | ⟨f, a, e1, e2, _⟩ <;> omega
      refine ex_retb oq_X12_hasRead_163 rfl hx01.1 hx01.2 (hQ x168 h169 Th169 Fh169 ?_)
      rcases dx168 with ⟨v, q, e1, e2, e3, e4, e5, e6, e7⟩ | ⟨f, a, e1, e2, e3, e4, e5⟩
      · exact .inl ⟨_, _, (by unfold zhs; rw [if_neg (by omega), if_neg (by omega), if_neg (by omega), if_pos (by omega), zb2_r e1]), e2, e3, e4, e5, e6, (e7.2 (b + 1) (by omega)).trans hg1, hcm, (e7.2 (b + 14) (by omega)).trans hg14⟩
      · exact .inr ⟨_, _, (by unfold zhs; rw [if_neg (by omega), if_neg (by omega), if_neg (by omega), if_pos (by omega), zb2_l e1]), e2, e3, e4, e5⟩
    | 4, _, c101 =>
      refine ⟨rfl, ?_⟩
      show cw_X _ _ _ 164 _ _ _
      refine ex_al oq_X12_hasRead_164 rfl ?_
      refine ex_al oq_X12_hasRead_165 rfl ?_
      refine ex_gf oq_X12_hasRead_166 hT (k := 111) (d := 12) rfl rfl (fr_gateHas hT) ?_
      refine ex_il oq_X12_hasRead_169 rfl ?_
      refine ex_bi oq_X12_hasRead_170 (m := 13) (by decide) (fun x170 hx170 => ?_)
      refine ex_add oq_X12_hasRead_172 (by omega) (fun x171 hx171 => ?_)
      refine ex_ic oq_X12_hasRead_173 (m := 1) (by decide) (fun x172 hx172 => ?_)
      refine ex_ic oq_X12_hasRead_174 (m := 0) (by decide) (fun x173 hx173 => ?_)
      refine ex_si oq_X12_hasRead_175 (m := 9999) (by decide) (fun x174 hx174 => ?_)
      refine ex_cv oq_X12_hasRead_178 (by decide) hT (k := 111) (d := 12) (as := [cv_r 119, cv_i x171, cv_i x172, cv_i x173, cv_i x174]) (stk := []) rfl rfl rfl rfl rfl rfl ⟨rfl, rfl⟩ (R := fun o => ∃ (x : Int32) (hb : cv_H), o = (some (cv_i x), hb) ∧ cw_T G hb ∧ cw_Fr cw_Ds cw_sh mk_gt h0 hb ∧ zRe t n h0 hb x (zns t n x173.toInt x174.toInt 1 p) (fun vs => (∀ i, i < 1 → ri_at hb 119 (b + 13 + i) = vs.getD i 0) ∧ ∀ i, (i < b + 13 ∨ b + 13 + 1 ≤ i) → ri_at hb 119 i = ri_at h0 119 i)) (rt_numbersH (t := t) (n := n) (p := p) (f := b + 13) (m := 1) hT (by omega) hz (fun i hi => by rw [ht i hi, ← hA _ Fh0]) hn9 (fun i hi => by rw [hB _ Fh0]; exact hwr i hi) (by omega) (by omega) (by omega) (by omega) (by omega) (fun x hb b1 b2 b3 => ⟨x, hb, rfl, b1, b2, b3⟩)) (fun o ho => ?_)
      obtain ⟨x175, h176, rfl, Th176, Ch176, dx175⟩ := ho
      show cw_X _ _ _ _ _ [cv_i x175] h176
      have Fh176 : cw_Fr cw_Ds cw_sh mk_gt h0 h176 := cw_Fr_tr Fh0 (cw_Fr_mono (by decide +kernel) Ch176)
      rw [hx173] at dx175
      rw [hx174] at dx175
      have eh176_111_16 : ri_at h176 111 16 = ri_at h0 111 16 := ri_frf Ch176 (d := 12) rfl rfl (by decide +kernel)
      have hx01 : 0 ≤ x175.toInt ∧ x175.toInt ≤ 1 := by rcases dx175 with ⟨v, q, e1, e2, e3, _⟩ | ⟨f, a, e1, e2, _⟩ <;> omega
      refine ex_retb oq_X12_hasRead_181 rfl hx01.1 hx01.2 (hQ x175 h176 Th176 Fh176 ?_)
      rcases dx175 with ⟨v, q, e1, e2, e3, e4, e5, e6, e7⟩ | ⟨f, a, e1, e2, e3, e4, e5⟩
      · exact .inl ⟨_, _, (by unfold zhs; rw [if_neg (by omega), if_neg (by omega), if_neg (by omega), if_neg (by omega), if_pos (by omega), zb2_r e1]), e2, e3, e4, e5, e6, (e7.2 (b + 1) (by omega)).trans hg1, hcm, (e7.2 (b + 14) (by omega)).trans hg14⟩
      · exact .inr ⟨_, _, (by unfold zhs; rw [if_neg (by omega), if_neg (by omega), if_neg (by omega), if_neg (by omega), if_pos (by omega), zb2_l e1]), e2, e3, e4, e5⟩
    | 5, _, c101 =>
      refine ⟨rfl, ?_⟩
      show cw_X _ _ _ 182 _ _ _
      refine ex_al oq_X12_hasRead_182 rfl ?_
      refine ex_al oq_X12_hasRead_183 rfl ?_
      refine ex_gf oq_X12_hasRead_184 hT (k := 111) (d := 12) rfl rfl (fr_rise hT) ?_
      refine ex_bi oq_X12_hasRead_187 (m := 36) (by decide) (fun x177 hx177 => ?_)
      refine ex_bi oq_X12_hasRead_189 (m := 9) (by decide) (fun x178 hx178 => ?_)
      refine ex_al oq_X12_hasRead_191 rfl ?_
      obtain ⟨x179, ax179, rx179, lx179, ux179⟩ := fi_gatesRead hT
      refine ex_gf oq_X12_hasRead_192 hT (k := 111) (d := 12) rfl rfl ax179 ?_
      refine ex_mul oq_X12_hasRead_195 (m := 9 * x179.toInt) (by rw [hx178]) (by omega) (fun x180 hx180 => ?_)
      refine ex_add oq_X12_hasRead_196 (by omega) (fun x181 hx181 => ?_)
      refine ex_bi oq_X12_hasRead_197 (m := 9) (by decide) (fun x182 hx182 => ?_)
      refine ex_ic oq_X12_hasRead_199 (m := 0) (by decide) (fun x183 hx183 => ?_)
      refine ex_si oq_X12_hasRead_200 (m := 200) (by decide) (fun x184 hx184 => ?_)
      refine ex_cv oq_X12_hasRead_203 (by decide) hT (k := 111) (d := 12) (as := [cv_r 120, cv_i x181, cv_i x182, cv_i x183, cv_i x184]) (stk := []) rfl rfl rfl rfl rfl rfl ⟨rfl, rfl⟩ (R := fun o => ∃ (x : Int32) (hb : cv_H), o = (some (cv_i x), hb) ∧ cw_T G hb ∧ cw_Fr cw_Ds cw_sh kk_X12_numbers_1.2.2.2.2.2.1 h0 hb ∧ zRe t n h0 hb x (zns t n x183.toInt x184.toInt 9 p) (fun vs => (∀ i, i < 9 → ri_at hb 120 (36 + 9 * u + i) = vs.getD i 0) ∧ ∀ i, (i < 36 + 9 * u ∨ 36 + 9 * u + 9 ≤ i) → ri_at hb 120 i = ri_at h0 120 i)) (rt_numbersS (t := t) (n := n) (p := p) (f := 36 + 9 * u) (m := 9) hT (by omega) hz (fun i hi => by rw [ht i hi, ← hA _ Fh0]) hn9 (fun i hi => by rw [hB _ Fh0]; exact hwr i hi) (by omega) (by omega) (by omega) (by omega) (by omega) (fun x hb b1 b2 b3 => ⟨x, hb, rfl, b1, b2, b3⟩)) (fun o ho => ?_)
      obtain ⟨x185, h186, rfl, Th186, Ch186, dx185⟩ := ho
      show cw_X _ _ _ _ _ [cv_i x185] h186
      have Fh186 : cw_Fr cw_Ds cw_sh mk_gt h0 h186 := cw_Fr_tr Fh0 (cw_Fr_mono (by decide +kernel) Ch186)
      rw [hx183] at dx185
      rw [hx184] at dx185
      have eh186_111_16 : ri_at h186 111 16 = ri_at h0 111 16 := ri_frf Ch186 (d := 12) rfl rfl (by decide +kernel)
      have eh186_r1 : ri_at h186 119 (b + 1) = hh := (ri_frq Ch186 (k := 119) (d := 58) rfl rfl (by decide) (by decide +kernel)).trans hg1
      have eh186_r14 : ri_at h186 119 (b + 14) = (cm : Int) := (ri_frq Ch186 (k := 119) (d := 58) rfl rfl (by decide) (by decide +kernel)).trans hg14
      have hx01 : 0 ≤ x185.toInt ∧ x185.toInt ≤ 1 := by rcases dx185 with ⟨v, q, e1, e2, e3, _⟩ | ⟨f, a, e1, e2, _⟩ <;> omega
      refine ex_retb oq_X12_hasRead_206 rfl hx01.1 hx01.2 (hQ x185 h186 Th186 Fh186 ?_)
      rcases dx185 with ⟨v, q, e1, e2, e3, e4, e5, e6, e7⟩ | ⟨f, a, e1, e2, e3, e4, e5⟩
      · exact .inl ⟨_, _, (by unfold zhs; rw [if_neg (by omega), if_neg (by omega), if_neg (by omega), if_neg (by omega), if_neg (by omega), if_pos (by omega), zb2_r e1]), e2, e3, e4, e5, e6, eh186_r1, hcm, eh186_r14⟩
      · exact .inr ⟨_, _, (by unfold zhs; rw [if_neg (by omega), if_neg (by omega), if_neg (by omega), if_neg (by omega), if_neg (by omega), if_pos (by omega), zb2_l e1]), e2, e3, e4, e5⟩
    | 6, _, c101 =>
      refine ⟨rfl, ?_⟩
      show cw_X _ _ _ 207 _ _ _
      refine ex_al oq_X12_hasRead_207 rfl ?_
      refine ex_il oq_X12_hasRead_208 rfl ?_
      refine ex_cv oq_X12_hasRead_209 (by decide) hT (k := 111) (d := 12) (as := [cv_i g]) (stk := []) rfl rfl rfl rfl rfl rfl ⟨rfl, rfl⟩ (R := fun o => ∃ (x : Int32) (hb : cv_H), o = (some (cv_i x), hb) ∧ cw_T G hb ∧ cw_Fr cw_Ds cw_sh mk_gt h0 hb ∧ zRe t n h0 hb x (zcr t n cn cm p) (fun c' => ri_at hb 119 (b + 1) = hh ∧ c' < 64 ∧ ri_at hb 119 (b + 14) = c')) (rt_causeRead (t := t) (n := n) (p := p) (b := b) (hh := hh) (cm := cm) (cn := cn) (fun i hi => by rw [ht i hi, ← hA _ Fh0]) hn9 hT (fun i hi => by rw [hB _ Fh0]; exact hwr i hi) (by omega) hz hg hb hg1 hh2 hg14 hcc hc6 hcl hcm (fun x hb b1 b2 b3 => ⟨x, hb, rfl, b1, b2, b3⟩)) (fun o ho => ?_)
      obtain ⟨x187, h188, rfl, Th188, Ch188, dx187⟩ := ho
      show cw_X _ _ _ _ _ [cv_i x187] h188
      have Fh188 : cw_Fr cw_Ds cw_sh mk_gt h0 h188 := cw_Fr_tr Fh0 (cw_Fr_mono (by decide +kernel) Ch188)
      have eh188_111_16 : ri_at h188 111 16 = ri_at h0 111 16 := ri_frf Ch188 (d := 12) rfl rfl (by decide +kernel)
      have hx01 : 0 ≤ x187.toInt ∧ x187.toInt ≤ 1 := by rcases dx187 with ⟨v, q, e1, e2, e3, _⟩ | ⟨f, a, e1, e2, _⟩ <;> omega
      refine ex_retb oq_X12_hasRead_212 rfl hx01.1 hx01.2 (hQ x187 h188 Th188 Fh188 ?_)
      rcases dx187 with ⟨v, q, e1, e2, e3, e4, e5, e6, e7⟩ | ⟨f, a, e1, e2, e3, e4, e5⟩
      · exact .inl ⟨_, _, (by unfold zhs; rw [if_neg (by omega), if_neg (by omega), if_neg (by omega), if_neg (by omega), if_neg (by omega), if_neg (by omega), if_pos (by omega), e1]), e2, e3, e4, e5, e6, e7.1, e7.2.1, e7.2.2⟩
      · exact .inr ⟨_, _, (by unfold zhs; rw [if_neg (by omega), if_neg (by omega), if_neg (by omega), if_neg (by omega), if_neg (by omega), if_neg (by omega), if_pos (by omega), e1]), e2, e3, e4, e5⟩
    | i + 7, hi, _ => exact absurd hi (by show ¬ i + 7 < 7; omega)
end TZ
