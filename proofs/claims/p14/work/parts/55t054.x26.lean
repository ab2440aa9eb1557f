/-! ===== what lines tell, the class: parts of a gate ===== -/
def zgU (D : Nat → Int) (i : Nat) (v : Int) : Nat → Int := fun j => if j = i then v else D j
theorem zgU_eq {D : Nat → Int} {i : Nat} {v : Int} : zgU D i v i = v := by unfold zgU; rw [if_pos rfl]
theorem zgU_ne {D : Nat → Int} {i j : Nat} {v : Int} (h : j ≠ i) : zgU D i v j = D j := by unfold zgU; rw [if_neg h]
def zo {α β : Type} (S : (Int × Nat) ⊕ (α × Nat)) (f : α → Nat → β) (d : β) : β := match S with
  | .inl _ => d
  | .inr (v, q) => f v q
theorem zo_r {α β : Type} {S : (Int × Nat) ⊕ (α × Nat)} {f : α → Nat → β} {d : β} {v : α} {q : Nat} (h : S = .inr (v, q)) : zo S f d = f v q := by rw [h]; rfl
/-- what a part makes of a gate's numbers (p: behind its word); 16 and on: the rises -/
def zpW (t : Nat → Int) (n : Nat) (hh w : Int) (p : Nat) (D : Nat → Int) : Nat → Int :=
  if w = 0 then zo (zn t n 0 hh p) (fun v1 q1 => zo (zn t n (v1 + 1) hh q1) (fun v2 q2 => zo (zg t n 30 q2) (fun v3 q3 => zo (zg t n 30 q3) (fun v4 _ => zgU (zgU (zgU (zgU D 3 v1) 4 v2) 5 v3) 6 v4) D) D) D) D else
  if w = 1 then zo (zn t n 12 60 p) (fun v1 q1 => zo (zns t n 3 14 1 q1) (fun vs _ => zgU (zgU D 7 v1) 8 (vs.getD 0 0)) D) D else
  if w = 2 then zgU D 9 (if zw t n p = 28 then 1 else 2) else
  if w = 3 then zo (zns t n 0 9999 2 p) (fun vs _ => zgU (zgU D 10 (vs.getD 0 0)) 11 (vs.getD 1 0)) D else
  if w = 4 then zo (zns t n 0 9999 1 p) (fun vs _ => zgU D 13 (vs.getD 0 0)) D else
  if w = 5 then zo (zns t n 0 200 9 p) (fun vs _ => fun j => if 16 ≤ j then vs.getD (j - 16) 0 else D j) D else
  if w = 6 then D else zo (zns t n 0 200 1 p) (fun vs _ => zgU D 12 (vs.getD 0 0)) D
/-- a gate's told numbers but the causes -/
def zKD (h : cv_H) (K : Nat) (D : Nat → Int) : Prop := (∀ j, j < 14 → ri_at h K j = D j) ∧ ∀ j, j < 9 → ri_at h (K + 1) j = D (16 + j)
/-- other gates' told numbers stay -/
def zOK (K : Nat) (h h' : cv_H) : Prop := (∀ k : Nat, cw_sh[k]? = some 7 → k ≠ K → ∀ i, i < 16 → ri_at h' k i = ri_at h k i) ∧ ∀ k : Nat, cw_sh[k]? = some 44 → k ≠ K + 1 → ∀ i, ri_at h' k i = ri_at h k i
theorem zOK_0 {K : Nat} {h : cv_H} : zOK K h h := ⟨fun _ _ _ _ _ => rfl, fun _ _ _ _ => rfl⟩
theorem zOK_tr {K : Nat} {h h' h'' : cv_H} (a : zOK K h h') (b : zOK K h' h'') : zOK K h h'' := ⟨fun k q r i hi => (b.1 k q r i hi).trans (a.1 k q r i hi), fun k q r i => (b.2 k q r i).trans (a.2 k q r i)⟩
theorem zOK_d {K k j d : Nat} {v : cv_V} {h h' h'' : cv_H} (w : cw_Wr h' h'' k j v) (hk : cw_sh[k]? = some d) (q : d ≠ 7 ∧ d ≠ 44) (a : zOK K h h') : zOK K h h'' := by
  refine ⟨fun k' q' r i hi => (ri_ne w (.inl (fun e => ?_))).trans (a.1 k' q' r i hi), fun k' q' r i => (ri_ne w (.inl (fun e => ?_))).trans (a.2 k' q' r i)⟩
  · subst e; rw [hk] at q'; cases q'; exact q.1 rfl
  · subst e; rw [hk] at q'; cases q'; exact q.2 rfl
theorem zOK_K {K j : Nat} {v : cv_V} {h h' h'' : cv_H} (w : cw_Wr h' h'' K j v) (hk : cw_sh[K]? = some 7) (a : zOK K h h') : zOK K h h'' := by
  refine ⟨fun k' q' r i hi => (ri_ne w (.inl r)).trans (a.1 k' q' r i hi), fun k' q' r i => (ri_ne w (.inl (fun e => ?_))).trans (a.2 k' q' r i)⟩
  subst e; rw [hk] at q'; cases q'
theorem zOK_R {K j : Nat} {v : cv_V} {h h' h'' : cv_H} (w : cw_Wr h' h'' (K + 1) j v) (hk : cw_sh[K + 1]? = some 44) (a : zOK K h h') : zOK K h h'' := by
  refine ⟨fun k' q' r i hi => (ri_ne w (.inl (fun e => ?_))).trans (a.1 k' q' r i hi), fun k' q' r i => (ri_ne w (.inl r)).trans (a.2 k' q' r i)⟩
  subst e; rw [hk] at q'; cases q'
theorem zOK_fr {K m : Nat} {h h' h'' : cv_H} (C : cw_Fr cw_Ds cw_sh m h' h'') (q : ((List.range 16).all (fun i => !cw_bit m 7 i) && !(cw_bit m 44 0 || cw_bit m 44 1)) = true) (a : zOK K h h') : zOK K h h'' := by
  rw [Bool.and_eq_true] at q
  refine ⟨fun k' q' r i hi => (ri_frf C q' rfl ?_).trans (a.1 k' q' r i hi), fun k' q' r i => (ri_frr C q' rfl (by simpa using q.2)).trans (a.2 k' q' r i)⟩
  have := List.all_eq_true.mp q.1 i (List.mem_range.mpr hi)
  simpa using this
theorem zns_i {t : Nat → Int} {n k p q : Nat} {lo hi : Int} {vs : List Int} (e : zns t n lo hi (k + 1) p = .inr (vs, q)) : ∃ v p' vs', zn t n lo hi p = .inr (v, p') ∧ zns t n lo hi k p' = .inr (vs', q) ∧ vs = v :: vs' := by
  rw [zns] at e
  cases e1 : zn t n lo hi p with
  | inl x => rw [e1] at e; cases e
  | inr x =>
    obtain ⟨v, p'⟩ := x
    rw [e1] at e
    dsimp only at e
    cases e2 : zns t n lo hi k p' with
    | inl y => rw [e2] at e; cases e
    | inr y =>
      obtain ⟨vs', q'⟩ := y
      rw [e2] at e
      cases e
      exact ⟨v, p', vs', rfl, e2, rfl⟩
theorem zns_i0 {t : Nat → Int} {n p q : Nat} {lo hi : Int} {vs : List Int} (e : zns t n lo hi 0 p = .inr (vs, q)) : vs = [] ∧ q = p := by
  rw [zns] at e
  cases e
  exact ⟨rfl, rfl⟩
section TZ
variable {G : Int} {X : cv_X} {Q : cv_O → Prop} {t : Nat → Int}
theorem ct_braceD {h0 : cv_H} {n p : Nat} (ht : ∀ i, t i = ri_at h0 1 i % 256) (hwd : ∀ i, i < 34 → ri_at h0 52 i = tz_wc.getD i 0) (hn9 : n ≤ 900) (hT : cw_T G h0) {K : Nat} (hK7 : cw_sh[K]? = some 7) (hS : zCs t n (.inr p) h0) (E1 : zk t n p = 1 ∧ (zw t n p = 28 ∨ zw t n p = 29)) (hQ : ∀ h', cw_T G h' → cw_Fr cw_Ds cw_sh kk_X5_readBrace.2.2.2.2.2.1 h0 h' → zOK K h0 h' → ri_at h' K 9 = (if zw t n p = 28 then 1 else 2) → Q (none, h')) : cw_X X 69 Q 0 (cv_ent 0 [cv_r 50, cv_r K]) [] h0 := by
  have Fh0 : cw_Fr cw_Ds cw_sh kk_X5_readBrace.2.2.2.2.2.1 h0 h0 := cw_Fr_refl
  have hA : ∀ h, cw_Fr cw_Ds cw_sh kk_X5_readBrace.2.2.2.2.2.1 h0 h → ∀ i, ri_at h 1 i = ri_at h0 1 i := fun h F i => ri_frr F (k := 1) (d := 13) rfl rfl (by decide +kernel)
  have hB : ∀ h, cw_Fr cw_Ds cw_sh kk_X5_readBrace.2.2.2.2.2.1 h0 h → ∀ i, ri_at h 52 i = ri_at h0 52 i := fun h F i => ri_frr F (k := 52) (d := 43) rfl rfl (by decide +kernel)
  have hOK : zOK K h0 h0 := zOK_0
  refine ex_al oq_X5_readBrace_0 rfl ?_
  refine ex_gf oq_X5_readBrace_1 hT (k := 50) (d := 5) rfl rfl (ri_ref (k := 50) (k' := 51) (d := 5) (f := 0) hT rfl rfl rfl (by decide) (ri_uniq (by decide +kernel))) ?_
  refine ex_bi oq_X5_readBrace_4 (m := 17) (by decide) (fun x101 hx101 => ?_)
  refine ex_bi oq_X5_readBrace_6 (m := 18) (by decide) (fun x102 hx102 => ?_)
  obtain ⟨pnh0, yah0, ybh0, ych0, ydh0, yfh0⟩ := zCs_at hS
  obtain ⟨kch0, ykh0⟩ : ∃ k, ri_at h0 51 4 = k := ⟨_, rfl⟩
  obtain ⟨vch0, yvh0⟩ : ∃ k, ri_at h0 51 6 = k := ⟨_, rfl⟩
  rw [ykh0, yvh0] at ydh0
  replace ydh0 := zhd_i ydh0
  have zlh0 := zx_le (t := t) (n := n) (p := p) (by omega)
  refine ex_cv oq_X5_readBrace_8 (by decide) hT (k := 51) (d := 6) (as := [cv_i x101, cv_i x102]) (stk := []) rfl rfl rfl rfl rfl rfl ⟨rfl, rfl⟩ (R := fun o => ∃ x : Int32, o = (some (cv_i x), h0) ∧ (x.toInt = 1 ∧ (kch0 = 2 ∧ x101.toInt ≤ vch0 ∧ vch0 ≤ x102.toInt) ∨ x.toInt = 0 ∧ ¬ (kch0 = 2 ∧ x101.toInt ≤ vch0 ∧ vch0 ≤ x102.toInt))) (ct_isWordFrom hT x101 x102 ykh0 yvh0 (fun x q => ⟨x, rfl, q⟩)) (fun o ho => ?_)
  obtain ⟨x103, rfl, dx103⟩ := ho
  show cw_X _ _ _ _ _ [cv_i x103] h0
  rw [hx101] at dx103
  rw [hx102] at dx103
  have rl104 := rl_pw (show tz_rel _ _ _ _ from ydh0)
  refine ex_if0 oq_X5_readBrace_11 (t := 21) rfl rfl (fun (c105 : ¬ x103.toInt = 0) => ?_) (fun (c105 : ¬ (¬ x103.toInt = 0)) => ?_)
  · refine ex_al oq_X5_readBrace_21 rfl ?_
    refine ex_al oq_X5_readBrace_22 rfl ?_
    refine ex_gf oq_X5_readBrace_23 hT (k := 50) (d := 5) rfl rfl (ri_ref (k := 50) (k' := 51) (d := 5) (f := 0) hT rfl rfl rfl (by decide) (ri_uniq (by decide +kernel))) ?_
    obtain ⟨x106, ax106, rx106, lx106, ux106⟩ := ri_fld (k := 51) (d := 6) (f := 6) hT rfl rfl rfl
    try dsimp only at lx106 ux106
    refine ex_gf oq_X5_readBrace_26 hT (k := 51) (d := 6) rfl rfl ax106 ?_
    clear lx106 ux106
    have rx106 := (rx106.symm.trans yvh0 : x106.toInt = vch0)
    refine ex_bi oq_X5_readBrace_29 (m := 17) (by decide) (fun x107 hx107 => ?_)
    refine ex_if oq_X5_readBrace_31 (t := 38) rfl rfl (fun (c108 : ¬ x106.toInt = x107.toInt) => ?_) (fun (c108 : ¬ (¬ x106.toInt = x107.toInt)) => ?_)
    · refine ex_ic oq_X5_readBrace_38 (m := 2) (by decide) (fun x109 hx109 => ?_)
      refine ex_pfi oq_X5_readBrace_39 hT (k := K) (d := 7) hK7 rfl rfl (cw_i32 _).1 (cw_i32 _).2 (fun h110 Th110 wh110 => ?_)
      have Fh110 : cw_Fr cw_Ds cw_sh kk_X5_readBrace.2.2.2.2.2.1 h0 h110 := cw_Fr_tr Fh0 (cw_Fr_wrf wh110 (k := K) (d := 7) hK7 rfl (by decide +kernel))
      have Sh110 := zCs_wr (d := 7) (k := K) wh110 hK7 hS (.inl ⟨by decide, by decide⟩)
      have Wh110 := zOK_K wh110 hK7 hOK
      refine ex_al oq_X5_readBrace_42 rfl ?_
      refine ex_gf oq_X5_readBrace_43 Th110 (k := 50) (d := 5) rfl rfl (ri_ref (k := 50) (k' := 51) (d := 5) (f := 0) Th110 rfl rfl rfl (by decide) (ri_uniq (by decide +kernel))) ?_
      refine ex_cv oq_X5_readBrace_46 (by decide) Th110 (k := 51) (d := 6) (as := []) (stk := []) rfl rfl rfl rfl rfl rfl ⟨rfl, rfl⟩ (R := fun o => ∃ hb : cv_H, o = (none, hb) ∧ cw_T G hb ∧ cw_Fr cw_Ds cw_sh kk_X6_step.2.2.2.2.2.1 h110 hb ∧ zCs t n (.inr (zx t n p)) hb) (ct_stepC (t := t) (n := n) (p := p) (fun i => by rw [ht, ← hA _ Fh110]) (fun i hi => by rw [hB _ Fh110]; exact hwd i hi) hn9 Th110 Sh110 (fun hb b1 b2 b3 => ⟨hb, rfl, b1, b2, b3⟩)) (fun o ho => ?_)
      obtain ⟨h111, rfl, Th111, Ch111, Sh111⟩ := ho
      show cw_X _ _ _ _ _ [] h111
      have Fh111 : cw_Fr cw_Ds cw_sh kk_X5_readBrace.2.2.2.2.2.1 h0 h111 := cw_Fr_tr Fh110 (cw_Fr_mono (by decide +kernel) Ch111)
      have Wh111 := zOK_fr Ch111 (by decide +kernel) Wh110
      clear Wh110
      clear yah0 ybh0 ych0 ykh0 yvh0 yfh0
      obtain ⟨pnh111, yah111, ybh111, ych111, ydh111, yfh111⟩ := zCs_at Sh111
      obtain ⟨kch111, ykh111⟩ : ∃ k, ri_at h111 51 4 = k := ⟨_, rfl⟩
      obtain ⟨vch111, yvh111⟩ : ∃ k, ri_at h111 51 6 = k := ⟨_, rfl⟩
      rw [ykh111, yvh111] at ydh111
      replace ydh111 := zhd_i ydh111
      have zlh111 := zx_le (t := t) (n := n) (p := (zx t n p)) (by omega)
      exact ex_retv oq_X5_readBrace_49 rfl (hQ h111 Th111 Fh111 Wh111 ((((ri_frf Ch111 (k := K) (d := 7) hK7 rfl (by decide +kernel))).trans (ri_self wh110)).trans (by first | (rw [if_pos (by omega)]; omega) | (rw [if_neg (by omega)]; omega))))
    · refine ex_ic oq_X5_readBrace_34 (m := 1) (by decide) (fun x112 hx112 => ?_)
      refine ex_go oq_X5_readBrace_35 (t := 39) rfl rfl ?_
      refine ex_pfi oq_X5_readBrace_39 hT (k := K) (d := 7) hK7 rfl rfl (cw_i32 _).1 (cw_i32 _).2 (fun h113 Th113 wh113 => ?_)
      have Fh113 : cw_Fr cw_Ds cw_sh kk_X5_readBrace.2.2.2.2.2.1 h0 h113 := cw_Fr_tr Fh0 (cw_Fr_wrf wh113 (k := K) (d := 7) hK7 rfl (by decide +kernel))
      have Sh113 := zCs_wr (d := 7) (k := K) wh113 hK7 hS (.inl ⟨by decide, by decide⟩)
      have Wh113 := zOK_K wh113 hK7 hOK
      refine ex_al oq_X5_readBrace_42 rfl ?_
      refine ex_gf oq_X5_readBrace_43 Th113 (k := 50) (d := 5) rfl rfl (ri_ref (k := 50) (k' := 51) (d := 5) (f := 0) Th113 rfl rfl rfl (by decide) (ri_uniq (by decide +kernel))) ?_
      refine ex_cv oq_X5_readBrace_46 (by decide) Th113 (k := 51) (d := 6) (as := []) (stk := []) rfl rfl rfl rfl rfl rfl ⟨rfl, rfl⟩ (R := fun o => ∃ hb : cv_H, o = (none, hb) ∧ cw_T G hb ∧ cw_Fr cw_Ds cw_sh kk_X6_step.2.2.2.2.2.1 h113 hb ∧ zCs t n (.inr (zx t n p)) hb) (ct_stepC (t := t) (n := n) (p := p) (fun i => by rw [ht, ← hA _ Fh113]) (fun i hi => by rw [hB _ Fh113]; exact hwd i hi) hn9 Th113 Sh113 (fun hb b1 b2 b3 => ⟨hb, rfl, b1, b2, b3⟩)) (fun o ho => ?_)
      obtain ⟨h114, rfl, Th114, Ch114, Sh114⟩ := ho
      show cw_X _ _ _ _ _ [] h114
      have Fh114 : cw_Fr cw_Ds cw_sh kk_X5_readBrace.2.2.2.2.2.1 h0 h114 := cw_Fr_tr Fh113 (cw_Fr_mono (by decide +kernel) Ch114)
      have Wh114 := zOK_fr Ch114 (by decide +kernel) Wh113
      clear Wh113
      clear yah0 ybh0 ych0 ykh0 yvh0 yfh0
      obtain ⟨pnh114, yah114, ybh114, ych114, ydh114, yfh114⟩ := zCs_at Sh114
      obtain ⟨kch114, ykh114⟩ : ∃ k, ri_at h114 51 4 = k := ⟨_, rfl⟩
      obtain ⟨vch114, yvh114⟩ : ∃ k, ri_at h114 51 6 = k := ⟨_, rfl⟩
      rw [ykh114, yvh114] at ydh114
      replace ydh114 := zhd_i ydh114
      have zlh114 := zx_le (t := t) (n := n) (p := (zx t n p)) (by omega)
      exact ex_retv oq_X5_readBrace_49 rfl (hQ h114 Th114 Fh114 Wh114 ((((ri_frf Ch114 (k := K) (d := 7) hK7 rfl (by decide +kernel))).trans (ri_self wh113)).trans (by first | (rw [if_pos (by omega)]; omega) | (rw [if_neg (by omega)]; omega))))
  · exfalso; omega
theorem ct_hasD {h0 : cv_H} {n p : Nat} (ht : ∀ i, t i = ri_at h0 1 i % 256) (hwd : ∀ i, i < 34 → ri_at h0 52 i = tz_wc.getD i 0) (hn9 : n ≤ 900) (hT : cw_T G h0) {b : Nat} (hb : b = 2 ∨ b = 26) (hpl : zPL b h0) {K : Nat} (hK7 : cw_sh[K]? = some 7) (hS : zCs t n (.inr p) h0) {cn : List Int} (hcc : ri_at h0 b 19 = cn.length) (hc6 : cn.length ≤ 6) (hcl : zNm h0 (b + 12) 0 cn) (hQ : ∀ h', cw_T G h' → cw_Fr cw_Ds cw_sh kk_X5_readHas.2.2.2.2.2.1 h0 h' → zOK K h0 h' → Q (none, h')) : cw_X X 70 Q 0 (cv_ent 0 [cv_r 50, cv_r K]) [] h0 := by
  have Fh0 : cw_Fr cw_Ds cw_sh kk_X5_readHas.2.2.2.2.2.1 h0 h0 := cw_Fr_refl
  have hA : ∀ h, cw_Fr cw_Ds cw_sh kk_X5_readHas.2.2.2.2.2.1 h0 h → ∀ i, ri_at h 1 i = ri_at h0 1 i := fun h F i => ri_frr F (k := 1) (d := 13) rfl rfl (by decide +kernel)
  have hB : ∀ h, cw_Fr cw_Ds cw_sh kk_X5_readHas.2.2.2.2.2.1 h0 h → ∀ i, ri_at h 52 i = ri_at h0 52 i := fun h F i => ri_frr F (k := 52) (d := 43) rfl rfl (by decide +kernel)
  have hPL : ∀ h, cw_Fr cw_Ds cw_sh kk_X5_readHas.2.2.2.2.2.1 h0 h → zPL b h := fun h F => zPL_fr hb F (by decide +kernel) hpl
  have hb4 : cw_sh[b]? = some 4 := by rcases hb with rfl | rfl <;> rfl
  have hkb1 : cw_sh[b + 1]? = some 28 := by rcases hb with rfl | rfl <;> rfl
  have hkb2 : cw_sh[b + 2]? = some 29 := by rcases hb with rfl | rfl <;> rfl
  have hkb3 : cw_sh[b + 3]? = some 30 := by rcases hb with rfl | rfl <;> rfl
  have hkb4 : cw_sh[b + 4]? = some 31 := by rcases hb with rfl | rfl <;> rfl
  have hkb5 : cw_sh[b + 5]? = some 32 := by rcases hb with rfl | rfl <;> rfl
  have hkb6 : cw_sh[b + 6]? = some 33 := by rcases hb with rfl | rfl <;> rfl
  have hkb7 : cw_sh[b + 7]? = some 34 := by rcases hb with rfl | rfl <;> rfl
  have hkb8 : cw_sh[b + 8]? = some 35 := by rcases hb with rfl | rfl <;> rfl
  have hkb9 : cw_sh[b + 9]? = some 36 := by rcases hb with rfl | rfl <;> rfl
  have hkb10 : cw_sh[b + 10]? = some 37 := by rcases hb with rfl | rfl <;> rfl
  have hkb11 : cw_sh[b + 11]? = some 38 := by rcases hb with rfl | rfl <;> rfl
  have hkb12 : cw_sh[b + 12]? = some 39 := by rcases hb with rfl | rfl <;> rfl
  have hkb13 : cw_sh[b + 13]? = some 40 := by rcases hb with rfl | rfl <;> rfl
  have hkb14 : cw_sh[b + 14]? = some 41 := by rcases hb with rfl | rfl <;> rfl
  have hkb15 : cw_sh[b + 15]? = some 42 := by rcases hb with rfl | rfl <;> rfl
  have hOK : zOK K h0 h0 := zOK_0
  refine ex_al oq_X5_readHas_0 rfl ?_
  refine ex_gf oq_X5_readHas_1 hT (k := 50) (d := 5) rfl rfl (ri_ref (k := 50) (k' := 51) (d := 5) (f := 0) hT rfl rfl rfl (by decide) (ri_uniq (by decide +kernel))) ?_
  obtain ⟨pnh0, yah0, ybh0, ych0, ydh0, yfh0⟩ := zCs_at hS
  obtain ⟨kch0, ykh0⟩ : ∃ k, ri_at h0 51 4 = k := ⟨_, rfl⟩
  obtain ⟨vch0, yvh0⟩ : ∃ k, ri_at h0 51 6 = k := ⟨_, rfl⟩
  rw [ykh0, yvh0] at ydh0
  replace ydh0 := zhd_i ydh0
  have zlh0 := zx_le (t := t) (n := n) (p := p) (by omega)
  obtain ⟨x101, ax101, rx101, lx101, ux101⟩ := ri_fld (k := 51) (d := 6) (f := 4) hT rfl rfl rfl
  try dsimp only at lx101 ux101
  refine ex_gf oq_X5_readHas_4 hT (k := 51) (d := 6) rfl rfl ax101 ?_
  clear lx101 ux101
  have rx101 := (rx101.symm.trans ykh0 : x101.toInt = kch0)
  refine ex_ic oq_X5_readHas_7 (m := 3) (by decide) (fun x102 hx102 => ?_)
  refine ex_if oq_X5_readHas_8 (t := 18) rfl rfl (fun (c103 : x101.toInt = x102.toInt) => ?_) (fun (c103 : ¬ (x101.toInt = x102.toInt)) => ?_)
  · refine ex_al oq_X5_readHas_18 rfl ?_
    refine ex_gf oq_X5_readHas_19 hT (k := 50) (d := 5) rfl rfl (ri_ref (k := 50) (k' := 51) (d := 5) (f := 0) hT rfl rfl rfl (by decide) (ri_uniq (by decide +kernel))) ?_
    obtain ⟨x104, ax104, rx104, lx104, ux104⟩ := ri_fld (k := 51) (d := 6) (f := 6) hT rfl rfl rfl
    try dsimp only at lx104 ux104
    refine ex_gf oq_X5_readHas_22 hT (k := 51) (d := 6) rfl rfl ax104 ?_
    clear lx104 ux104
    have rx104 := (rx104.symm.trans yvh0 : x104.toInt = vch0)
    refine ex_al oq_X5_readHas_25 rfl ?_
    refine ex_gf oq_X5_readHas_26 hT (k := 50) (d := 5) rfl rfl ((hPL _ Fh0).1) ?_
    refine ex_gf oq_X5_readHas_29 hT (k := b) (d := 4) hb4 rfl ((show cw_at h0 b 15 = some (cv_r (b + 12)) from (hPL _ Fh0).2.1 15 (by decide))) ?_
    refine ex_al oq_X5_readHas_32 rfl ?_
    refine ex_gf oq_X5_readHas_33 hT (k := 50) (d := 5) rfl rfl ((hPL _ Fh0).1) ?_
    obtain ⟨x105, ax105, rx105, lx105, ux105⟩ := ri_fld (k := b) (d := 4) (f := 19) hT hb4 rfl rfl
    try dsimp only at lx105 ux105
    refine ex_gf oq_X5_readHas_36 hT (k := b) (d := 4) hb4 rfl ax105 ?_
    have rx105 := (rx105.symm.trans hcc : x105.toInt = (cn.length : Int))
    refine ex_cs oq_X5_readHas_39 (by decide) (as := [cv_i x104, cv_r (b + 12), cv_i x105]) (stk := []) rfl rfl rfl ⟨rfl, rfl⟩ (R := fun o => ∃ x : Int32, o = (some (cv_i x), h0) ∧ x.toInt = tz_find cn x104.toInt 0) (ct_placeSC hb hT (l := cn) (by omega) (by omega) hcl (fun x q => ⟨x, rfl, q⟩)) (fun o ho => ?_)
    obtain ⟨x106, rfl, qx106⟩ := ho
    show cw_X _ _ _ _ _ [cv_i x106] h0
    refine ex_isA oq_X5_readHas_42 (fun L107 gL107_2 kL107 => ?_)
    have gL107_0 : cv_get L107 0 = some (cv_r 50) := kL107 0 _ (by decide) (fun q => absurd q (by decide)) rfl
    have gL107_1 : cv_get L107 1 = some (cv_r K) := kL107 1 _ (by decide) (fun _ => rfl) rfl
    refine ex_il oq_X5_readHas_43 gL107_2 ?_
    refine ex_ic oq_X5_readHas_44 (m := (-1)) (by decide) (fun x108 hx108 => ?_)
    refine ex_if oq_X5_readHas_45 (t := 55) rfl rfl (fun (c109 : ¬ x106.toInt = x108.toInt) => ?_) (fun (c109 : ¬ (¬ x106.toInt = x108.toInt)) => ?_)
    · refine ex_al oq_X5_readHas_55 gL107_1 ?_
      obtain ⟨x110, ax110, rx110, lx110, ux110⟩ := ri_fld (k := K) (d := 7) (f := 14) hT hK7 rfl rfl
      try dsimp only at lx110 ux110
      refine ex_gf oq_X5_readHas_56 hT (k := K) (d := 7) hK7 rfl ax110 ?_
      clear lx110 ux110
      refine ex_ic oq_X5_readHas_59 (m := 1) (by decide) (fun x111 hx111 => ?_)
      refine ex_il oq_X5_readHas_60 gL107_2 ?_
      refine ex_any (f := fun x y => some x) oq_X5_readHas_61 rfl (fun x112 => ?_)
      refine ex_any (f := fun x y => some x) oq_X5_readHas_62 rfl (fun x113 => ?_)
      refine ex_if0 oq_X5_readHas_63 (t := 73) rfl rfl (fun (c114 : x113.toInt = 0) => ?_) (fun (c114 : ¬ (x113.toInt = 0)) => ?_)
      · refine ex_al oq_X5_readHas_73 gL107_1 ?_
        refine ex_dup oq_X5_readHas_74 rfl ?_
        obtain ⟨x115, ax115, rx115, lx115, ux115⟩ := ri_fld (k := K) (d := 7) (f := 14) hT hK7 rfl rfl
        try dsimp only at lx115 ux115
        refine ex_gf oq_X5_readHas_75 hT (k := K) (d := 7) hK7 rfl ax115 ?_
        clear lx115 ux115
        refine ex_ic oq_X5_readHas_78 (m := 1) (by decide) (fun x116 hx116 => ?_)
        refine ex_il oq_X5_readHas_79 gL107_2 ?_
        refine ex_any (f := fun x y => some x) oq_X5_readHas_80 rfl (fun x117 => ?_)
        refine ex_any (f := fun x y => some x) oq_X5_readHas_81 rfl (fun x118 => ?_)
        refine ex_pfi oq_X5_readHas_82 hT (k := K) (d := 7) hK7 rfl rfl (cw_i32 _).1 (cw_i32 _).2 (fun h119 Th119 wh119 => ?_)
        have Fh119 : cw_Fr cw_Ds cw_sh kk_X5_readHas.2.2.2.2.2.1 h0 h119 := cw_Fr_tr Fh0 (cw_Fr_wrf wh119 (k := K) (d := 7) hK7 rfl (by decide +kernel))
        have eh119_b_19 : ri_at h119 b 19 = (cn.length : Int) := (ri_ne wh119 (.inl (cw_kne (k := b) (d := 4) (k' := K) (d' := 7) hb4 hK7 (by decide)))).trans hcc
        have Sh119 := zCs_wr (d := 7) (k := K) wh119 hK7 hS (.inl ⟨by decide, by decide⟩)
        have Wh119 := zOK_K wh119 hK7 hOK
        refine ex_al oq_X5_readHas_85 gL107_0 ?_
        refine ex_gf oq_X5_readHas_86 Th119 (k := 50) (d := 5) rfl rfl (ri_ref (k := 50) (k' := 51) (d := 5) (f := 0) Th119 rfl rfl rfl (by decide) (ri_uniq (by decide +kernel))) ?_
        refine ex_cv oq_X5_readHas_89 (by decide) Th119 (k := 51) (d := 6) (as := []) (stk := []) rfl rfl rfl rfl rfl rfl ⟨rfl, rfl⟩ (R := fun o => ∃ hb : cv_H, o = (none, hb) ∧ cw_T G hb ∧ cw_Fr cw_Ds cw_sh kk_X6_step.2.2.2.2.2.1 h119 hb ∧ zCs t n (.inr (zx t n p)) hb) (ct_stepC (t := t) (n := n) (p := p) (fun i => by rw [ht, ← hA _ Fh119]) (fun i hi => by rw [hB _ Fh119]; exact hwd i hi) hn9 Th119 Sh119 (fun hb b1 b2 b3 => ⟨hb, rfl, b1, b2, b3⟩)) (fun o ho => ?_)
        obtain ⟨h120, rfl, Th120, Ch120, Sh120⟩ := ho
        show cw_X _ _ _ _ _ [] h120
        have Fh120 : cw_Fr cw_Ds cw_sh kk_X5_readHas.2.2.2.2.2.1 h0 h120 := cw_Fr_tr Fh119 (cw_Fr_mono (by decide +kernel) Ch120)
        have eh120_b_19 : ri_at h120 b 19 = (cn.length : Int) := (ri_frf Ch120 (k := b) (d := 4) hb4 rfl (by decide +kernel)).trans eh119_b_19
        clear eh119_b_19
        have Wh120 := zOK_fr Ch120 (by decide +kernel) Wh119
        clear Wh119
        clear yah0 ybh0 ych0 ykh0 yvh0 yfh0
        obtain ⟨pnh120, yah120, ybh120, ych120, ydh120, yfh120⟩ := zCs_at Sh120
        obtain ⟨kch120, ykh120⟩ : ∃ k, ri_at h120 51 4 = k := ⟨_, rfl⟩
        obtain ⟨vch120, yvh120⟩ : ∃ k, ri_at h120 51 6 = k := ⟨_, rfl⟩
        rw [ykh120, yvh120] at ydh120
        replace ydh120 := zhd_i ydh120
        have zlh120 := zx_le (t := t) (n := n) (p := (zx t n p)) (by omega)
        exact ex_retv oq_X5_readHas_92 rfl (hQ h120 Th120 Fh120 Wh120)
      · refine ex_al oq_X5_readHas_66 gL107_0 ?_
        refine ex_ic oq_X5_readHas_67 (m := 3) (by decide) (fun x121 hx121 => ?_)
        refine ex_cv oq_X5_readHas_68 (by decide) hT (k := 50) (d := 5) (as := [cv_i x121]) (stk := []) rfl rfl rfl rfl rfl rfl ⟨rfl, rfl⟩ (R := fun o => ∃ (x : Int32) (hb : cv_H), o = (some (cv_i x), hb) ∧ cw_T G hb ∧ cw_Fr cw_Ds cw_sh kk_X5_fail.2.2.2.2.2.1 h0 hb ∧ x.toInt = 0 ∧ zCs t n (.inl (3, za t n p)) hb) (ct_failP (t := t) (n := n) (p := p) hT hS x121 hx121 (by decide) (fun x hb b1 b2 b3 b4 => ⟨x, hb, rfl, b1, b2, b3, b4⟩)) (fun o ho => ?_)
        obtain ⟨x122, h123, rfl, Th123, Ch123, zh123, Sh123⟩ := ho
        show cw_X _ _ _ _ _ [cv_i x122] h123
        have Fh123 : cw_Fr cw_Ds cw_sh kk_X5_readHas.2.2.2.2.2.1 h0 h123 := cw_Fr_tr Fh0 (cw_Fr_mono (by decide +kernel) Ch123)
        have eh123_b_19 : ri_at h123 b 19 = (cn.length : Int) := (ri_frf Ch123 (k := b) (d := 4) hb4 rfl (by decide +kernel)).trans hcc
        have Wh123 := zOK_fr Ch123 (by decide +kernel) hOK
        refine ex_pop oq_X5_readHas_71 rfl ?_
        exact ex_retv oq_X5_readHas_72 rfl (hQ h123 Th123 Fh123 Wh123)
    · refine ex_al oq_X5_readHas_48 gL107_0 ?_
      refine ex_ic oq_X5_readHas_49 (m := 4) (by decide) (fun x124 hx124 => ?_)
      refine ex_cv oq_X5_readHas_50 (by decide) hT (k := 50) (d := 5) (as := [cv_i x124]) (stk := []) rfl rfl rfl rfl rfl rfl ⟨rfl, rfl⟩ (R := fun o => ∃ (x : Int32) (hb : cv_H), o = (some (cv_i x), hb) ∧ cw_T G hb ∧ cw_Fr cw_Ds cw_sh kk_X5_fail.2.2.2.2.2.1 h0 hb ∧ x.toInt = 0 ∧ zCs t n (.inl (4, za t n p)) hb) (ct_failP (t := t) (n := n) (p := p) hT hS x124 hx124 (by decide) (fun x hb b1 b2 b3 b4 => ⟨x, hb, rfl, b1, b2, b3, b4⟩)) (fun o ho => ?_)
      obtain ⟨x125, h126, rfl, Th126, Ch126, zh126, Sh126⟩ := ho
      show cw_X _ _ _ _ _ [cv_i x125] h126
      have Fh126 : cw_Fr cw_Ds cw_sh kk_X5_readHas.2.2.2.2.2.1 h0 h126 := cw_Fr_tr Fh0 (cw_Fr_mono (by decide +kernel) Ch126)
      have eh126_b_19 : ri_at h126 b 19 = (cn.length : Int) := (ri_frf Ch126 (k := b) (d := 4) hb4 rfl (by decide +kernel)).trans hcc
      have Wh126 := zOK_fr Ch126 (by decide +kernel) hOK
      refine ex_pop oq_X5_readHas_53 rfl ?_
      exact ex_retv oq_X5_readHas_54 rfl (hQ h126 Th126 Fh126 Wh126)
  · refine ex_al oq_X5_readHas_11 rfl ?_
    refine ex_ic oq_X5_readHas_12 (m := 1) (by decide) (fun x127 hx127 => ?_)
    refine ex_cv oq_X5_readHas_13 (by decide) hT (k := 50) (d := 5) (as := [cv_i x127]) (stk := []) rfl rfl rfl rfl rfl rfl ⟨rfl, rfl⟩ (R := fun o => ∃ (x : Int32) (hb : cv_H), o = (some (cv_i x), hb) ∧ cw_T G hb ∧ cw_Fr cw_Ds cw_sh kk_X5_fail.2.2.2.2.2.1 h0 hb ∧ x.toInt = 0 ∧ zCs t n (.inl (1, za t n p)) hb) (ct_failP (t := t) (n := n) (p := p) hT hS x127 hx127 (by decide) (fun x hb b1 b2 b3 b4 => ⟨x, hb, rfl, b1, b2, b3, b4⟩)) (fun o ho => ?_)
    obtain ⟨x128, h129, rfl, Th129, Ch129, zh129, Sh129⟩ := ho
    show cw_X _ _ _ _ _ [cv_i x128] h129
    have Fh129 : cw_Fr cw_Ds cw_sh kk_X5_readHas.2.2.2.2.2.1 h0 h129 := cw_Fr_tr Fh0 (cw_Fr_mono (by decide +kernel) Ch129)
    have eh129_b_19 : ri_at h129 b 19 = (cn.length : Int) := (ri_frf Ch129 (k := b) (d := 4) hb4 rfl (by decide +kernel)).trans hcc
    have Wh129 := zOK_fr Ch129 (by decide +kernel) hOK
    refine ex_pop oq_X5_readHas_16 rfl ?_
    exact ex_retv oq_X5_readHas_17 rfl (hQ h129 Th129 Fh129 Wh129)
set_option maxHeartbeats 16000000 in
theorem ct_partD0 {h0 : cv_H} {n p : Nat} (ht : ∀ i, t i = ri_at h0 1 i % 256) (hwd : ∀ i, i < 34 → ri_at h0 52 i = tz_wc.getD i 0) (hn9 : n ≤ 900) (hT : cw_T G h0) {b : Nat} (hb : b = 2 ∨ b = 26) (hpl : zPL b h0) {K : Nat} (hK7 : cw_sh[K]? = some 7) (hK44 : cw_sh[K + 1]? = some 44) (hKr : cw_at h0 K 16 = some (cv_r (K + 1))) (hS : zCs t n (.inr p) h0) (hZ : zk t n p = 1 ∧ zw t n p = 9) {D : Nat → Int} (hD : zKD h0 K D) {hh : Int} (hg1 : ri_at h0 K 1 = hh) (hh2 : 24 ≤ hh ∧ hh ≤ 72) {v1 v2 v3 v4 : Int} {q1 q2 q3 q4 : Nat}  (E1 : zn t n 0 hh (zx t n p) = .inr (v1, q1)) (E2 : zn t n (v1 + 1) hh q1 = .inr (v2, q2)) (E3 : zg t n 30 q2 = .inr (v3, q3)) (E4 : zg t n 30 q3 = .inr (v4, q4)) (hQ : ∀ h', cw_T G h' → cw_Fr cw_Ds cw_sh kk_X5_readPart.2.2.2.2.2.1 h0 h' → zOK K h0 h' → (ri_at h' 50 4 ≠ 0 ∨ zKD h' K (zgU (zgU (zgU (zgU D 3 v1) 4 v2) 5 v3) 6 v4)) → Q (none, h')) : cw_X X 68 Q 0 (cv_ent 0 [cv_r 50, cv_r K]) [] h0 := by
  have n1 := zn_rg E1
  have n2 := zn_rg E2
  have n3 := zg_rg (by omega) E3
  have n4 := zg_rg (by omega) E4
  have Fh0 : cw_Fr cw_Ds cw_sh kk_X5_readPart.2.2.2.2.2.1 h0 h0 := cw_Fr_refl
  have hA : ∀ h, cw_Fr cw_Ds cw_sh kk_X5_readPart.2.2.2.2.2.1 h0 h → ∀ i, ri_at h 1 i = ri_at h0 1 i := fun h F i => ri_frr F (k := 1) (d := 13) rfl rfl (by decide +kernel)
  have hB : ∀ h, cw_Fr cw_Ds cw_sh kk_X5_readPart.2.2.2.2.2.1 h0 h → ∀ i, ri_at h 52 i = ri_at h0 52 i := fun h F i => ri_frr F (k := 52) (d := 43) rfl rfl (by decide +kernel)
  have hPL : ∀ h, cw_Fr cw_Ds cw_sh kk_X5_readPart.2.2.2.2.2.1 h0 h → zPL b h := fun h F => zPL_fr hb F (by decide +kernel) hpl
  have hb4 : cw_sh[b]? = some 4 := by rcases hb with rfl | rfl <;> rfl
  have hkb1 : cw_sh[b + 1]? = some 28 := by rcases hb with rfl | rfl <;> rfl
  have hkb2 : cw_sh[b + 2]? = some 29 := by rcases hb with rfl | rfl <;> rfl
  have hkb3 : cw_sh[b + 3]? = some 30 := by rcases hb with rfl | rfl <;> rfl
  have hkb4 : cw_sh[b + 4]? = some 31 := by rcases hb with rfl | rfl <;> rfl
  have hkb5 : cw_sh[b + 5]? = some 32 := by rcases hb with rfl | rfl <;> rfl
  have hkb6 : cw_sh[b + 6]? = some 33 := by rcases hb with rfl | rfl <;> rfl
  have hkb7 : cw_sh[b + 7]? = some 34 := by rcases hb with rfl | rfl <;> rfl
  have hkb8 : cw_sh[b + 8]? = some 35 := by rcases hb with rfl | rfl <;> rfl
  have hkb9 : cw_sh[b + 9]? = some 36 := by rcases hb with rfl | rfl <;> rfl
  have hkb10 : cw_sh[b + 10]? = some 37 := by rcases hb with rfl | rfl <;> rfl
  have hkb11 : cw_sh[b + 11]? = some 38 := by rcases hb with rfl | rfl <;> rfl
  have hkb12 : cw_sh[b + 12]? = some 39 := by rcases hb with rfl | rfl <;> rfl
  have hkb13 : cw_sh[b + 13]? = some 40 := by rcases hb with rfl | rfl <;> rfl
  have hkb14 : cw_sh[b + 14]? = some 41 := by rcases hb with rfl | rfl <;> rfl
  have hkb15 : cw_sh[b + 15]? = some 42 := by rcases hb with rfl | rfl <;> rfl
  have hKR : ∀ h, cw_Fr cw_Ds cw_sh kk_X5_readPart.2.2.2.2.2.1 h0 h → cw_at h K 16 = some (cv_r (K + 1)) := fun h F => (F.2 K 7 16 hK7 (by decide +kernel)).trans hKr
  have hOK : zOK K h0 h0 := zOK_0
  refine ex_al oq_X5_readPart_0 rfl ?_
  refine ex_gf oq_X5_readPart_1 hT (k := 50) (d := 5) rfl rfl (ri_ref (k := 50) (k' := 51) (d := 5) (f := 0) hT rfl rfl rfl (by decide) (ri_uniq (by decide +kernel))) ?_
  obtain ⟨pnh0, yah0, ybh0, ych0, ydh0, yfh0⟩ := zCs_at hS
  obtain ⟨kch0, ykh0⟩ : ∃ k, ri_at h0 51 4 = k := ⟨_, rfl⟩
  obtain ⟨vch0, yvh0⟩ : ∃ k, ri_at h0 51 6 = k := ⟨_, rfl⟩
  rw [ykh0, yvh0] at ydh0
  replace ydh0 := zhd_i ydh0
  have rlw := rl_pw (show tz_rel _ _ _ _ from ydh0)
  have zlh0 := zx_le (t := t) (n := n) (p := p) (by omega)
  obtain ⟨x301, ax301, rx301, lx301, ux301⟩ := ri_fld (k := 51) (d := 6) (f := 6) hT rfl rfl rfl
  try dsimp only at lx301 ux301
  refine ex_gf oq_X5_readPart_4 hT (k := 51) (d := 6) rfl rfl ax301 ?_
  clear lx301 ux301
  have rx301 := (rx301.symm.trans yvh0 : x301.toInt = vch0)
  refine ex_isA oq_X5_readPart_7 (fun L302 gL302_2 kL302 => ?_)
  have gL302_0 : cv_get L302 0 = some (cv_r 50) := kL302 0 _ (by decide) (fun q => absurd q (by decide)) rfl
  have gL302_1 : cv_get L302 1 = some (cv_r K) := kL302 1 _ (by decide) (fun _ => rfl) rfl
  refine ex_il oq_X5_readPart_8 gL302_2 ?_
  refine ex_bi oq_X5_readPart_9 (m := 16) (by decide) (fun x303 hx303 => ?_)
  refine ex_if oq_X5_readPart_11 (t := 32) rfl rfl (fun (c304 : x301.toInt = x303.toInt) => ?_) (fun (c304 : ¬ (x301.toInt = x303.toInt)) => ?_)
  · exfalso; omega
  · refine ex_al oq_X5_readPart_14 gL302_1 ?_
    obtain ⟨x305, ax305, rx305, lx305, ux305⟩ := ri_fld (k := K) (d := 7) (f := 15) hT hK7 rfl rfl
    try dsimp only at lx305 ux305
    refine ex_gf oq_X5_readPart_15 hT (k := K) (d := 7) hK7 rfl ax305 ?_
    clear lx305 ux305
    refine ex_ic oq_X5_readPart_18 (m := 1) (by decide) (fun x306 hx306 => ?_)
    refine ex_il oq_X5_readPart_19 gL302_2 ?_
    refine ex_any (f := fun x y => some x) oq_X5_readPart_20 rfl (fun x307 => ?_)
    refine ex_any (f := fun x y => some x) oq_X5_readPart_21 rfl (fun x308 => ?_)
    refine ex_if0 oq_X5_readPart_22 (t := 32) rfl rfl (fun (c309 : x308.toInt = 0) => ?_) (fun (c309 : ¬ (x308.toInt = 0)) => ?_)
    · refine ex_al oq_X5_readPart_32 gL302_1 ?_
      refine ex_dup oq_X5_readPart_33 rfl ?_
      obtain ⟨x310, ax310, rx310, lx310, ux310⟩ := ri_fld (k := K) (d := 7) (f := 15) hT hK7 rfl rfl
      try dsimp only at lx310 ux310
      refine ex_gf oq_X5_readPart_34 hT (k := K) (d := 7) hK7 rfl ax310 ?_
      clear lx310 ux310
      refine ex_ic oq_X5_readPart_37 (m := 1) (by decide) (fun x311 hx311 => ?_)
      refine ex_il oq_X5_readPart_38 gL302_2 ?_
      refine ex_any (f := fun x y => some x) oq_X5_readPart_39 rfl (fun x312 => ?_)
      refine ex_any (f := fun x y => some x) oq_X5_readPart_40 rfl (fun x313 => ?_)
      refine ex_pfi oq_X5_readPart_41 hT (k := K) (d := 7) hK7 rfl rfl (cw_i32 _).1 (cw_i32 _).2 (fun h314 Th314 wh314 => ?_)
      have Fh314 : cw_Fr cw_Ds cw_sh kk_X5_readPart.2.2.2.2.2.1 h0 h314 := cw_Fr_tr Fh0 (cw_Fr_wrf wh314 (k := K) (d := 7) hK7 rfl (by decide +kernel))
      have eh314_K_1 : ri_at h314 K 1 = hh := (ri_ne wh314 (.inr (by decide))).trans hg1
      have eh314_K_3 : ri_at h314 K 3 = ri_at h0 K 3 := ri_ne wh314 (.inr (by decide))
      have Sh314 := zCs_wr (d := 7) (k := K) wh314 hK7 hS (.inl ⟨by decide, by decide⟩)
      have Wh314 := zOK_K wh314 hK7 hOK
      refine ex_al oq_X5_readPart_44 gL302_0 ?_
      refine ex_gf oq_X5_readPart_45 Th314 (k := 50) (d := 5) rfl rfl (ri_ref (k := 50) (k' := 51) (d := 5) (f := 0) Th314 rfl rfl rfl (by decide) (ri_uniq (by decide +kernel))) ?_
      refine ex_cv oq_X5_readPart_48 (by decide) Th314 (k := 51) (d := 6) (as := []) (stk := []) rfl rfl rfl rfl rfl rfl ⟨rfl, rfl⟩ (R := fun o => ∃ hb : cv_H, o = (none, hb) ∧ cw_T G hb ∧ cw_Fr cw_Ds cw_sh kk_X6_step.2.2.2.2.2.1 h314 hb ∧ zCs t n (.inr (zx t n p)) hb) (ct_stepC (t := t) (n := n) (p := p) (fun i => by rw [ht, ← hA _ Fh314]) (fun i hi => by rw [hB _ Fh314]; exact hwd i hi) hn9 Th314 Sh314 (fun hb b1 b2 b3 => ⟨hb, rfl, b1, b2, b3⟩)) (fun o ho => ?_)
      obtain ⟨h315, rfl, Th315, Ch315, Sh315⟩ := ho
      show cw_X _ _ _ _ _ [] h315
      have Fh315 : cw_Fr cw_Ds cw_sh kk_X5_readPart.2.2.2.2.2.1 h0 h315 := cw_Fr_tr Fh314 (cw_Fr_mono (by decide +kernel) Ch315)
      have eh315_K_1 : ri_at h315 K 1 = hh := (ri_frf Ch315 (k := K) (d := 7) hK7 rfl (by decide +kernel)).trans eh314_K_1
      clear eh314_K_1
      have eh315_K_3 : ri_at h315 K 3 = ri_at h0 K 3 := (ri_frf Ch315 (k := K) (d := 7) hK7 rfl (by decide +kernel)).trans eh314_K_3
      clear eh314_K_3
      have Wh315 := zOK_fr Ch315 (by decide +kernel) Wh314
      clear Wh314
      clear yah0 ybh0 ych0 ykh0 yvh0 yfh0
      obtain ⟨pnh315, yah315, ybh315, ych315, ydh315, yfh315⟩ := zCs_at Sh315
      obtain ⟨kch315, ykh315⟩ : ∃ k, ri_at h315 51 4 = k := ⟨_, rfl⟩
      obtain ⟨vch315, yvh315⟩ : ∃ k, ri_at h315 51 6 = k := ⟨_, rfl⟩
      rw [ykh315, yvh315] at ydh315
      replace ydh315 := zhd_i ydh315
      have zlh315 := zx_le (t := t) (n := n) (p := (zx t n p)) (by omega)
      refine ex_il oq_X5_readPart_51 gL302_2 ?_
      refine ex_tsw oq_X5_readPart_52 rfl (fun c316 => ⟨rfl, ?_⟩) (fun i hi c316 => ?_)
      · show cw_X _ _ _ 279 _ _ _
        exfalso; omega
      · match i, hi, c316 with
        | 0, _, c316 =>
          refine ⟨rfl, ?_⟩
          show cw_X _ _ _ 96 _ _ _
          refine ex_al oq_X5_readPart_96 gL302_1 ?_
          refine ex_al oq_X5_readPart_97 gL302_0 ?_
          refine ex_ic oq_X5_readPart_98 (m := 0) (by decide) (fun x317 hx317 => ?_)
          refine ex_al oq_X5_readPart_99 gL302_1 ?_
          obtain ⟨x318, ax318, rx318, lx318, ux318⟩ := ri_fld (k := K) (d := 7) (f := 1) Th315 hK7 rfl rfl
          try dsimp only at lx318 ux318
          refine ex_gf oq_X5_readPart_100 Th315 (k := K) (d := 7) hK7 rfl ax318 ?_
          have rx318 := (rx318.symm.trans eh315_K_1 : x318.toInt = hh)
          refine ex_cv oq_X5_readPart_103 (by decide) Th315 (k := 50) (d := 5) (as := [cv_i x317, cv_i x318]) (stk := [cv_r K]) rfl rfl rfl rfl rfl rfl ⟨rfl, rfl⟩ (R := fun o => ∃ (x : Int32) (hb : cv_H), o = (some (cv_i x), hb) ∧ cw_T G hb ∧ cw_Fr cw_Ds cw_sh kk_X5_readNumber_1.2.2.2.2.2.1 h315 hb ∧ zCr t n hb x (zn t n x317.toInt x318.toInt (zx t n p))) (ct_readNumber (t := t) (n := n) (fun i => by rw [ht, ← hA _ Fh315]) (fun i hi => by rw [hB _ Fh315]; exact hwd i hi) hn9 Th315 Sh315 x317 x318 (by omega) (by omega) (fun x hb b1 b2 b3 => ⟨x, hb, rfl, b1, b2, b3⟩)) (fun o ho => ?_)
          obtain ⟨x319, h320, rfl, Th320, Ch320, dx319⟩ := ho
          show cw_X _ _ _ _ _ [cv_i x319, cv_r K] h320
          rw [hx317, show x318.toInt = hh from by omega] at dx319
          rw [E1] at dx319
          obtain ⟨wx319, Sh320⟩ := zCr_r dx319
          clear dx319
          have Fh320 : cw_Fr cw_Ds cw_sh kk_X5_readPart.2.2.2.2.2.1 h0 h320 := cw_Fr_tr Fh315 (cw_Fr_mono (by decide +kernel) Ch320)
          have eh320_K_1 : ri_at h320 K 1 = hh := (ri_frf Ch320 (k := K) (d := 7) hK7 rfl (by decide +kernel)).trans eh315_K_1
          clear eh315_K_1
          have eh320_K_3 : ri_at h320 K 3 = ri_at h0 K 3 := (ri_frf Ch320 (k := K) (d := 7) hK7 rfl (by decide +kernel)).trans eh315_K_3
          clear eh315_K_3
          have Wh320 := zOK_fr Ch320 (by decide +kernel) Wh315
          clear Wh315
          clear yah315 ybh315 ych315 ykh315 yvh315 yfh315
          obtain ⟨pnh320, yah320, ybh320, ych320, ydh320, yfh320⟩ := zCs_at Sh320
          obtain ⟨kch320, ykh320⟩ : ∃ k, ri_at h320 51 4 = k := ⟨_, rfl⟩
          obtain ⟨vch320, yvh320⟩ : ∃ k, ri_at h320 51 6 = k := ⟨_, rfl⟩
          rw [ykh320, yvh320] at ydh320
          replace ydh320 := zhd_i ydh320
          have zlh320 := zx_le (t := t) (n := n) (p := q1) (by omega)
          refine ex_pfi oq_X5_readPart_106 Th320 (k := K) (d := 7) hK7 rfl rfl (by omega) (by omega) (fun h321 Th321 wh321 => ?_)
          have Fh321 : cw_Fr cw_Ds cw_sh kk_X5_readPart.2.2.2.2.2.1 h0 h321 := cw_Fr_tr Fh320 (cw_Fr_wrf wh321 (k := K) (d := 7) hK7 rfl (by decide +kernel))
          have eh321_K_1 : ri_at h321 K 1 = hh := (ri_ne wh321 (.inr (by decide))).trans eh320_K_1
          clear eh320_K_1
          have eh321_K_3 : ri_at h321 K 3 = x319.toInt := ri_self wh321
          have Sh321 := zCs_wr (d := 7) (k := K) wh321 hK7 Sh320 (.inl ⟨by decide, by decide⟩)
          have Wh321 := zOK_K wh321 hK7 Wh320
          clear Wh320
          refine ex_al oq_X5_readPart_109 gL302_1 ?_
          refine ex_al oq_X5_readPart_110 gL302_0 ?_
          refine ex_al oq_X5_readPart_111 gL302_1 ?_
          obtain ⟨x322, ax322, rx322, lx322, ux322⟩ := ri_fld (k := K) (d := 7) (f := 3) Th321 hK7 rfl rfl
          try dsimp only at lx322 ux322
          refine ex_gf oq_X5_readPart_112 Th321 (k := K) (d := 7) hK7 rfl ax322 ?_
          have rx322 := (rx322.symm.trans eh321_K_3 : x322.toInt = x319.toInt)
          refine ex_ic oq_X5_readPart_115 (m := 1) (by decide) (fun x323 hx323 => ?_)
          refine ex_add oq_X5_readPart_116 (by omega) (fun x324 hx324 => ?_)
          refine ex_al oq_X5_readPart_117 gL302_1 ?_
          obtain ⟨x325, ax325, rx325, lx325, ux325⟩ := ri_fld (k := K) (d := 7) (f := 1) Th321 hK7 rfl rfl
          try dsimp only at lx325 ux325
          refine ex_gf oq_X5_readPart_118 Th321 (k := K) (d := 7) hK7 rfl ax325 ?_
          have rx325 := (rx325.symm.trans eh321_K_1 : x325.toInt = hh)
          refine ex_cv oq_X5_readPart_121 (by decide) Th321 (k := 50) (d := 5) (as := [cv_i x324, cv_i x325]) (stk := [cv_r K]) rfl rfl rfl rfl rfl rfl ⟨rfl, rfl⟩ (R := fun o => ∃ (x : Int32) (hb : cv_H), o = (some (cv_i x), hb) ∧ cw_T G hb ∧ cw_Fr cw_Ds cw_sh kk_X5_readNumber_1.2.2.2.2.2.1 h321 hb ∧ zCr t n hb x (zn t n x324.toInt x325.toInt q1)) (ct_readNumber (t := t) (n := n) (fun i => by rw [ht, ← hA _ Fh321]) (fun i hi => by rw [hB _ Fh321]; exact hwd i hi) hn9 Th321 Sh321 x324 x325 (by omega) (by omega) (fun x hb b1 b2 b3 => ⟨x, hb, rfl, b1, b2, b3⟩)) (fun o ho => ?_)
          obtain ⟨x326, h327, rfl, Th327, Ch327, dx326⟩ := ho
          show cw_X _ _ _ _ _ [cv_i x326, cv_r K] h327
          rw [show x324.toInt = v1 + 1 from by omega, show x325.toInt = hh from by omega] at dx326
          rw [E2] at dx326
          obtain ⟨wx326, Sh327⟩ := zCr_r dx326
          clear dx326
          have Fh327 : cw_Fr cw_Ds cw_sh kk_X5_readPart.2.2.2.2.2.1 h0 h327 := cw_Fr_tr Fh321 (cw_Fr_mono (by decide +kernel) Ch327)
          have eh327_K_1 : ri_at h327 K 1 = hh := (ri_frf Ch327 (k := K) (d := 7) hK7 rfl (by decide +kernel)).trans eh321_K_1
          clear eh321_K_1
          have eh327_K_3 : ri_at h327 K 3 = x319.toInt := (ri_frf Ch327 (k := K) (d := 7) hK7 rfl (by decide +kernel)).trans eh321_K_3
          clear eh321_K_3
          have Wh327 := zOK_fr Ch327 (by decide +kernel) Wh321
          clear Wh321
          clear yah320 ybh320 ych320 ykh320 yvh320 yfh320
          obtain ⟨pnh327, yah327, ybh327, ych327, ydh327, yfh327⟩ := zCs_at Sh327
          obtain ⟨kch327, ykh327⟩ : ∃ k, ri_at h327 51 4 = k := ⟨_, rfl⟩
          obtain ⟨vch327, yvh327⟩ : ∃ k, ri_at h327 51 6 = k := ⟨_, rfl⟩
          rw [ykh327, yvh327] at ydh327
          replace ydh327 := zhd_i ydh327
          have zlh327 := zx_le (t := t) (n := n) (p := q2) (by omega)
          refine ex_pfi oq_X5_readPart_124 Th327 (k := K) (d := 7) hK7 rfl rfl (by omega) (by omega) (fun h328 Th328 wh328 => ?_)
          have Fh328 : cw_Fr cw_Ds cw_sh kk_X5_readPart.2.2.2.2.2.1 h0 h328 := cw_Fr_tr Fh327 (cw_Fr_wrf wh328 (k := K) (d := 7) hK7 rfl (by decide +kernel))
          have eh328_K_1 : ri_at h328 K 1 = hh := (ri_ne wh328 (.inr (by decide))).trans eh327_K_1
          clear eh327_K_1
          have eh328_K_3 : ri_at h328 K 3 = x319.toInt := (ri_ne wh328 (.inr (by decide))).trans eh327_K_3
          clear eh327_K_3
          have Sh328 := zCs_wr (d := 7) (k := K) wh328 hK7 Sh327 (.inl ⟨by decide, by decide⟩)
          have Wh328 := zOK_K wh328 hK7 Wh327
          clear Wh327
          refine ex_al oq_X5_readPart_127 gL302_1 ?_
          refine ex_al oq_X5_readPart_128 gL302_0 ?_
          refine ex_bi oq_X5_readPart_129 (m := (-30)) (by decide) (fun x329 hx329 => ?_)
          refine ex_bi oq_X5_readPart_131 (m := 30) (by decide) (fun x330 hx330 => ?_)
          refine ex_cv oq_X5_readPart_133 (by decide) Th328 (k := 50) (d := 5) (as := [cv_i x329, cv_i x330]) (stk := [cv_r K]) rfl rfl rfl rfl rfl rfl ⟨rfl, rfl⟩ (R := fun o => ∃ (x : Int32) (hb : cv_H), o = (some (cv_i x), hb) ∧ cw_T G hb ∧ cw_Fr cw_Ds cw_sh kk_X5_readNumber_1.2.2.2.2.2.1 h328 hb ∧ zCr t n hb x (zg t n 30 q2)) (ct_readSigned (t := t) (n := n) (fun i => by rw [ht, ← hA _ Fh328]) (fun i hi => by rw [hB _ Fh328]; exact hwd i hi) hn9 Th328 Sh328 x329 x330 hx329 hx330 (fun x hb b1 b2 b3 => ⟨x, hb, rfl, b1, b2, b3⟩)) (fun o ho => ?_)
          obtain ⟨x331, h332, rfl, Th332, Ch332, dx331⟩ := ho
          show cw_X _ _ _ _ _ [cv_i x331, cv_r K] h332
          rw [E3] at dx331
          obtain ⟨wx331, Sh332⟩ := zCr_r dx331
          clear dx331
          have Fh332 : cw_Fr cw_Ds cw_sh kk_X5_readPart.2.2.2.2.2.1 h0 h332 := cw_Fr_tr Fh328 (cw_Fr_mono (by decide +kernel) Ch332)
          have eh332_K_1 : ri_at h332 K 1 = hh := (ri_frf Ch332 (k := K) (d := 7) hK7 rfl (by decide +kernel)).trans eh328_K_1
          clear eh328_K_1
          have eh332_K_3 : ri_at h332 K 3 = x319.toInt := (ri_frf Ch332 (k := K) (d := 7) hK7 rfl (by decide +kernel)).trans eh328_K_3
          clear eh328_K_3
          have Wh332 := zOK_fr Ch332 (by decide +kernel) Wh328
          clear Wh328
          clear yah327 ybh327 ych327 ykh327 yvh327 yfh327
          obtain ⟨pnh332, yah332, ybh332, ych332, ydh332, yfh332⟩ := zCs_at Sh332
          obtain ⟨kch332, ykh332⟩ : ∃ k, ri_at h332 51 4 = k := ⟨_, rfl⟩
          obtain ⟨vch332, yvh332⟩ : ∃ k, ri_at h332 51 6 = k := ⟨_, rfl⟩
          rw [ykh332, yvh332] at ydh332
          replace ydh332 := zhd_i ydh332
          have zlh332 := zx_le (t := t) (n := n) (p := q3) (by omega)
          refine ex_pfi oq_X5_readPart_136 Th332 (k := K) (d := 7) hK7 rfl rfl (cw_i32 _).1 (cw_i32 _).2 (fun h333 Th333 wh333 => ?_)
          have Fh333 : cw_Fr cw_Ds cw_sh kk_X5_readPart.2.2.2.2.2.1 h0 h333 := cw_Fr_tr Fh332 (cw_Fr_wrf wh333 (k := K) (d := 7) hK7 rfl (by decide +kernel))
          have eh333_K_1 : ri_at h333 K 1 = hh := (ri_ne wh333 (.inr (by decide))).trans eh332_K_1
          clear eh332_K_1
          have eh333_K_3 : ri_at h333 K 3 = x319.toInt := (ri_ne wh333 (.inr (by decide))).trans eh332_K_3
          clear eh332_K_3
          have Sh333 := zCs_wr (d := 7) (k := K) wh333 hK7 Sh332 (.inl ⟨by decide, by decide⟩)
          have Wh333 := zOK_K wh333 hK7 Wh332
          clear Wh332
          refine ex_al oq_X5_readPart_139 gL302_1 ?_
          refine ex_al oq_X5_readPart_140 gL302_0 ?_
          refine ex_bi oq_X5_readPart_141 (m := (-30)) (by decide) (fun x334 hx334 => ?_)
          refine ex_bi oq_X5_readPart_143 (m := 30) (by decide) (fun x335 hx335 => ?_)
          refine ex_cv oq_X5_readPart_145 (by decide) Th333 (k := 50) (d := 5) (as := [cv_i x334, cv_i x335]) (stk := [cv_r K]) rfl rfl rfl rfl rfl rfl ⟨rfl, rfl⟩ (R := fun o => ∃ (x : Int32) (hb : cv_H), o = (some (cv_i x), hb) ∧ cw_T G hb ∧ cw_Fr cw_Ds cw_sh kk_X5_readNumber_1.2.2.2.2.2.1 h333 hb ∧ zCr t n hb x (zg t n 30 q3)) (ct_readSigned (t := t) (n := n) (fun i => by rw [ht, ← hA _ Fh333]) (fun i hi => by rw [hB _ Fh333]; exact hwd i hi) hn9 Th333 Sh333 x334 x335 hx334 hx335 (fun x hb b1 b2 b3 => ⟨x, hb, rfl, b1, b2, b3⟩)) (fun o ho => ?_)
          obtain ⟨x336, h337, rfl, Th337, Ch337, dx336⟩ := ho
          show cw_X _ _ _ _ _ [cv_i x336, cv_r K] h337
          rw [E4] at dx336
          obtain ⟨wx336, Sh337⟩ := zCr_r dx336
          clear dx336
          have Fh337 : cw_Fr cw_Ds cw_sh kk_X5_readPart.2.2.2.2.2.1 h0 h337 := cw_Fr_tr Fh333 (cw_Fr_mono (by decide +kernel) Ch337)
          have eh337_K_1 : ri_at h337 K 1 = hh := (ri_frf Ch337 (k := K) (d := 7) hK7 rfl (by decide +kernel)).trans eh333_K_1
          clear eh333_K_1
          have eh337_K_3 : ri_at h337 K 3 = x319.toInt := (ri_frf Ch337 (k := K) (d := 7) hK7 rfl (by decide +kernel)).trans eh333_K_3
          clear eh333_K_3
          have Wh337 := zOK_fr Ch337 (by decide +kernel) Wh333
          clear Wh333
          clear yah332 ybh332 ych332 ykh332 yvh332 yfh332
          obtain ⟨pnh337, yah337, ybh337, ych337, ydh337, yfh337⟩ := zCs_at Sh337
          obtain ⟨kch337, ykh337⟩ : ∃ k, ri_at h337 51 4 = k := ⟨_, rfl⟩
          obtain ⟨vch337, yvh337⟩ : ∃ k, ri_at h337 51 6 = k := ⟨_, rfl⟩
          rw [ykh337, yvh337] at ydh337
          replace ydh337 := zhd_i ydh337
          have zlh337 := zx_le (t := t) (n := n) (p := q4) (by omega)
          refine ex_pfi oq_X5_readPart_148 Th337 (k := K) (d := 7) hK7 rfl rfl (cw_i32 _).1 (cw_i32 _).2 (fun h338 Th338 wh338 => ?_)
          have Fh338 : cw_Fr cw_Ds cw_sh kk_X5_readPart.2.2.2.2.2.1 h0 h338 := cw_Fr_tr Fh337 (cw_Fr_wrf wh338 (k := K) (d := 7) hK7 rfl (by decide +kernel))
          have eh338_K_1 : ri_at h338 K 1 = hh := (ri_ne wh338 (.inr (by decide))).trans eh337_K_1
          clear eh337_K_1
          have eh338_K_3 : ri_at h338 K 3 = x319.toInt := (ri_ne wh338 (.inr (by decide))).trans eh337_K_3
          clear eh337_K_3
          have Sh338 := zCs_wr (d := 7) (k := K) wh338 hK7 Sh337 (.inl ⟨by decide, by decide⟩)
          have Wh338 := zOK_K wh338 hK7 Wh337
          clear Wh337
          refine ex_go oq_X5_readPart_151 (t := 284) rfl rfl ?_
          exact ex_retv oq_X5_readPart_284 rfl (hQ h338 Th338 Fh338 Wh338 (.inr ⟨fun j hj => match j, hj with | 0, _ => (((ri_ne wh338 (.inr (by decide))).trans ((ri_frf Ch337 (k := K) (d := 7) hK7 rfl (by decide +kernel)).trans ((ri_ne wh333 (.inr (by decide))).trans ((ri_frf Ch332 (k := K) (d := 7) hK7 rfl (by decide +kernel)).trans ((ri_ne wh328 (.inr (by decide))).trans ((ri_frf Ch327 (k := K) (d := 7) hK7 rfl (by decide +kernel)).trans ((ri_ne wh321 (.inr (by decide))).trans ((ri_frf Ch320 (k := K) (d := 7) hK7 rfl (by decide +kernel)).trans ((ri_frf Ch315 (k := K) (d := 7) hK7 rfl (by decide +kernel)).trans (ri_ne wh314 (.inr (by decide))))))))))))).trans ((hD.1 0 (by decide)).trans (by rw [zgU_ne (by decide), zgU_ne (by decide), zgU_ne (by decide), zgU_ne (by decide)])) | 1, _ => (((ri_ne wh338 (.inr (by decide))).trans ((ri_frf Ch337 (k := K) (d := 7) hK7 rfl (by decide +kernel)).trans ((ri_ne wh333 (.inr (by decide))).trans ((ri_frf Ch332 (k := K) (d := 7) hK7 rfl (by decide +kernel)).trans ((ri_ne wh328 (.inr (by decide))).trans ((ri_frf Ch327 (k := K) (d := 7) hK7 rfl (by decide +kernel)).trans ((ri_ne wh321 (.inr (by decide))).trans ((ri_frf Ch320 (k := K) (d := 7) hK7 rfl (by decide +kernel)).trans ((ri_frf Ch315 (k := K) (d := 7) hK7 rfl (by decide +kernel)).trans (ri_ne wh314 (.inr (by decide))))))))))))).trans ((hD.1 1 (by decide)).trans (by rw [zgU_ne (by decide), zgU_ne (by decide), zgU_ne (by decide), zgU_ne (by decide)])) | 2, _ => (((ri_ne wh338 (.inr (by decide))).trans ((ri_frf Ch337 (k := K) (d := 7) hK7 rfl (by decide +kernel)).trans ((ri_ne wh333 (.inr (by decide))).trans ((ri_frf Ch332 (k := K) (d := 7) hK7 rfl (by decide +kernel)).trans ((ri_ne wh328 (.inr (by decide))).trans ((ri_frf Ch327 (k := K) (d := 7) hK7 rfl (by decide +kernel)).trans ((ri_ne wh321 (.inr (by decide))).trans ((ri_frf Ch320 (k := K) (d := 7) hK7 rfl (by decide +kernel)).trans ((ri_frf Ch315 (k := K) (d := 7) hK7 rfl (by decide +kernel)).trans (ri_ne wh314 (.inr (by decide))))))))))))).trans ((hD.1 2 (by decide)).trans (by rw [zgU_ne (by decide), zgU_ne (by decide), zgU_ne (by decide), zgU_ne (by decide)])) | 3, _ => (((((ri_ne wh338 (.inr (by decide))).trans ((ri_frf Ch337 (k := K) (d := 7) hK7 rfl (by decide +kernel)).trans ((ri_ne wh333 (.inr (by decide))).trans ((ri_frf Ch332 (k := K) (d := 7) hK7 rfl (by decide +kernel)).trans ((ri_ne wh328 (.inr (by decide))).trans (ri_frf Ch327 (k := K) (d := 7) hK7 rfl (by decide +kernel)))))))).trans (ri_self wh321))).trans ((show x319.toInt = v1 from by omega).trans (by rw [zgU_ne (by decide), zgU_ne (by decide), zgU_ne (by decide), zgU_eq])) | 4, _ => (((((ri_ne wh338 (.inr (by decide))).trans ((ri_frf Ch337 (k := K) (d := 7) hK7 rfl (by decide +kernel)).trans ((ri_ne wh333 (.inr (by decide))).trans (ri_frf Ch332 (k := K) (d := 7) hK7 rfl (by decide +kernel)))))).trans (ri_self wh328))).trans ((show x326.toInt = v2 from by omega).trans (by rw [zgU_ne (by decide), zgU_ne (by decide), zgU_eq])) | 5, _ => (((((ri_ne wh338 (.inr (by decide))).trans (ri_frf Ch337 (k := K) (d := 7) hK7 rfl (by decide +kernel)))).trans (ri_self wh333))).trans ((show x331.toInt = v3 from by omega).trans (by rw [zgU_ne (by decide), zgU_eq])) | 6, _ => (((rfl).trans (ri_self wh338))).trans ((show x336.toInt = v4 from by omega).trans (by rw [zgU_eq])) | 7, _ => (((ri_ne wh338 (.inr (by decide))).trans ((ri_frf Ch337 (k := K) (d := 7) hK7 rfl (by decide +kernel)).trans ((ri_ne wh333 (.inr (by decide))).trans ((ri_frf Ch332 (k := K) (d := 7) hK7 rfl (by decide +kernel)).trans ((ri_ne wh328 (.inr (by decide))).trans ((ri_frf Ch327 (k := K) (d := 7) hK7 rfl (by decide +kernel)).trans ((ri_ne wh321 (.inr (by decide))).trans ((ri_frf Ch320 (k := K) (d := 7) hK7 rfl (by decide +kernel)).trans ((ri_frf Ch315 (k := K) (d := 7) hK7 rfl (by decide +kernel)).trans (ri_ne wh314 (.inr (by decide))))))))))))).trans ((hD.1 7 (by decide)).trans (by rw [zgU_ne (by decide), zgU_ne (by decide), zgU_ne (by decide), zgU_ne (by decide)])) | 8, _ => (((ri_ne wh338 (.inr (by decide))).trans ((ri_frf Ch337 (k := K) (d := 7) hK7 rfl (by decide +kernel)).trans ((ri_ne wh333 (.inr (by decide))).trans ((ri_frf Ch332 (k := K) (d := 7) hK7 rfl (by decide +kernel)).trans ((ri_ne wh328 (.inr (by decide))).trans ((ri_frf Ch327 (k := K) (d := 7) hK7 rfl (by decide +kernel)).trans ((ri_ne wh321 (.inr (by decide))).trans ((ri_frf Ch320 (k := K) (d := 7) hK7 rfl (by decide +kernel)).trans ((ri_frf Ch315 (k := K) (d := 7) hK7 rfl (by decide +kernel)).trans (ri_ne wh314 (.inr (by decide))))))))))))).trans ((hD.1 8 (by decide)).trans (by rw [zgU_ne (by decide), zgU_ne (by decide), zgU_ne (by decide), zgU_ne (by decide)])) | 9, _ => (((ri_ne wh338 (.inr (by decide))).trans ((ri_frf Ch337 (k := K) (d := 7) hK7 rfl (by decide +kernel)).trans ((ri_ne wh333 (.inr (by decide))).trans ((ri_frf Ch332 (k := K) (d := 7) hK7 rfl (by decide +kernel)).trans ((ri_ne wh328 (.inr (by decide))).trans ((ri_frf Ch327 (k := K) (d := 7) hK7 rfl (by decide +kernel)).trans ((ri_ne wh321 (.inr (by decide))).trans ((ri_frf Ch320 (k := K) (d := 7) hK7 rfl (by decide +kernel)).trans ((ri_frf Ch315 (k := K) (d := 7) hK7 rfl (by decide +kernel)).trans (ri_ne wh314 (.inr (by decide))))))))))))).trans ((hD.1 9 (by decide)).trans (by rw [zgU_ne (by decide), zgU_ne (by decide), zgU_ne (by decide), zgU_ne (by decide)])) | 10, _ => (((ri_ne wh338 (.inr (by decide))).trans ((ri_frf Ch337 (k := K) (d := 7) hK7 rfl (by decide +kernel)).trans ((ri_ne wh333 (.inr (by decide))).trans ((ri_frf Ch332 (k := K) (d := 7) hK7 rfl (by decide +kernel)).trans ((ri_ne wh328 (.inr (by decide))).trans ((ri_frf Ch327 (k := K) (d := 7) hK7 rfl (by decide +kernel)).trans ((ri_ne wh321 (.inr (by decide))).trans ((ri_frf Ch320 (k := K) (d := 7) hK7 rfl (by decide +kernel)).trans ((ri_frf Ch315 (k := K) (d := 7) hK7 rfl (by decide +kernel)).trans (ri_ne wh314 (.inr (by decide))))))))))))).trans ((hD.1 10 (by decide)).trans (by rw [zgU_ne (by decide), zgU_ne (by decide), zgU_ne (by decide), zgU_ne (by decide)])) | 11, _ => (((ri_ne wh338 (.inr (by decide))).trans ((ri_frf Ch337 (k := K) (d := 7) hK7 rfl (by decide +kernel)).trans ((ri_ne wh333 (.inr (by decide))).trans ((ri_frf Ch332 (k := K) (d := 7) hK7 rfl (by decide +kernel)).trans ((ri_ne wh328 (.inr (by decide))).trans ((ri_frf Ch327 (k := K) (d := 7) hK7 rfl (by decide +kernel)).trans ((ri_ne wh321 (.inr (by decide))).trans ((ri_frf Ch320 (k := K) (d := 7) hK7 rfl (by decide +kernel)).trans ((ri_frf Ch315 (k := K) (d := 7) hK7 rfl (by decide +kernel)).trans (ri_ne wh314 (.inr (by decide))))))))))))).trans ((hD.1 11 (by decide)).trans (by rw [zgU_ne (by decide), zgU_ne (by decide), zgU_ne (by decide), zgU_ne (by decide)])) | 12, _ => (((ri_ne wh338 (.inr (by decide))).trans ((ri_frf Ch337 (k := K) (d := 7) hK7 rfl (by decide +kernel)).trans ((ri_ne wh333 (.inr (by decide))).trans ((ri_frf Ch332 (k := K) (d := 7) hK7 rfl (by decide +kernel)).trans ((ri_ne wh328 (.inr (by decide))).trans ((ri_frf Ch327 (k := K) (d := 7) hK7 rfl (by decide +kernel)).trans ((ri_ne wh321 (.inr (by decide))).trans ((ri_frf Ch320 (k := K) (d := 7) hK7 rfl (by decide +kernel)).trans ((ri_frf Ch315 (k := K) (d := 7) hK7 rfl (by decide +kernel)).trans (ri_ne wh314 (.inr (by decide))))))))))))).trans ((hD.1 12 (by decide)).trans (by rw [zgU_ne (by decide), zgU_ne (by decide), zgU_ne (by decide), zgU_ne (by decide)])) | 13, _ => (((ri_ne wh338 (.inr (by decide))).trans ((ri_frf Ch337 (k := K) (d := 7) hK7 rfl (by decide +kernel)).trans ((ri_ne wh333 (.inr (by decide))).trans ((ri_frf Ch332 (k := K) (d := 7) hK7 rfl (by decide +kernel)).trans ((ri_ne wh328 (.inr (by decide))).trans ((ri_frf Ch327 (k := K) (d := 7) hK7 rfl (by decide +kernel)).trans ((ri_ne wh321 (.inr (by decide))).trans ((ri_frf Ch320 (k := K) (d := 7) hK7 rfl (by decide +kernel)).trans ((ri_frf Ch315 (k := K) (d := 7) hK7 rfl (by decide +kernel)).trans (ri_ne wh314 (.inr (by decide))))))))))))).trans ((hD.1 13 (by decide)).trans (by rw [zgU_ne (by decide), zgU_ne (by decide), zgU_ne (by decide), zgU_ne (by decide)])) | j + 14, hj => absurd hj (by omega), fun j hj => (((ri_ne wh338 (.inl (cw_kne (k := (K + 1)) (d := 44) (k' := K) (d' := 7) hK44 hK7 (by decide)))).trans ((ri_frr Ch337 (k := (K + 1)) (d := 44) hK44 rfl (by decide +kernel)).trans ((ri_ne wh333 (.inl (cw_kne (k := (K + 1)) (d := 44) (k' := K) (d' := 7) hK44 hK7 (by decide)))).trans ((ri_frr Ch332 (k := (K + 1)) (d := 44) hK44 rfl (by decide +kernel)).trans ((ri_ne wh328 (.inl (cw_kne (k := (K + 1)) (d := 44) (k' := K) (d' := 7) hK44 hK7 (by decide)))).trans ((ri_frr Ch327 (k := (K + 1)) (d := 44) hK44 rfl (by decide +kernel)).trans ((ri_ne wh321 (.inl (cw_kne (k := (K + 1)) (d := 44) (k' := K) (d' := 7) hK44 hK7 (by decide)))).trans ((ri_frr Ch320 (k := (K + 1)) (d := 44) hK44 rfl (by decide +kernel)).trans ((ri_frr Ch315 (k := (K + 1)) (d := 44) hK44 rfl (by decide +kernel)).trans (ri_ne wh314 (.inl (cw_kne (k := (K + 1)) (d := 44) (k' := K) (d' := 7) hK44 hK7 (by decide)))))))))))))).trans ((hD.2 j hj).trans (by rw [zgU_ne (by omega), zgU_ne (by omega), zgU_ne (by omega), zgU_ne (by omega)]))⟩))
        | 1, _, c316 =>
          refine ⟨rfl, ?_⟩
          show cw_X _ _ _ 154 _ _ _
          exfalso; omega
        | 2, _, c316 =>
          refine ⟨rfl, ?_⟩
          show cw_X _ _ _ 180 _ _ _
          exfalso; omega
        | 3, _, c316 =>
          refine ⟨rfl, ?_⟩
          show cw_X _ _ _ 188 _ _ _
          exfalso; omega
        | 4, _, c316 =>
          refine ⟨rfl, ?_⟩
          show cw_X _ _ _ 215 _ _ _
          exfalso; omega
        | 5, _, c316 =>
          refine ⟨rfl, ?_⟩
          show cw_X _ _ _ 230 _ _ _
          exfalso; omega
        | 6, _, c316 =>
          refine ⟨rfl, ?_⟩
          show cw_X _ _ _ 245 _ _ _
          exfalso; omega
        | i + 7, hi, _ => exact absurd hi (by show ¬ i + 7 < 7; omega)
    · refine ex_al oq_X5_readPart_25 gL302_0 ?_
      refine ex_ic oq_X5_readPart_26 (m := 3) (by decide) (fun x339 hx339 => ?_)
      refine ex_cv oq_X5_readPart_27 (by decide) hT (k := 50) (d := 5) (as := [cv_i x339]) (stk := []) rfl rfl rfl rfl rfl rfl ⟨rfl, rfl⟩ (R := fun o => ∃ (x : Int32) (hb : cv_H), o = (some (cv_i x), hb) ∧ cw_T G hb ∧ cw_Fr cw_Ds cw_sh kk_X5_fail.2.2.2.2.2.1 h0 hb ∧ x.toInt = 0 ∧ zCs t n (.inl (3, za t n p)) hb) (ct_failP (t := t) (n := n) (p := p) hT hS x339 hx339 (by decide) (fun x hb b1 b2 b3 b4 => ⟨x, hb, rfl, b1, b2, b3, b4⟩)) (fun o ho => ?_)
      obtain ⟨x340, h341, rfl, Th341, Ch341, zh341, Sh341⟩ := ho
      show cw_X _ _ _ _ _ [cv_i x340] h341
      have Fh341 : cw_Fr cw_Ds cw_sh kk_X5_readPart.2.2.2.2.2.1 h0 h341 := cw_Fr_tr Fh0 (cw_Fr_mono (by decide +kernel) Ch341)
      have eh341_K_1 : ri_at h341 K 1 = hh := (ri_frf Ch341 (k := K) (d := 7) hK7 rfl (by decide +kernel)).trans hg1
      have eh341_K_3 : ri_at h341 K 3 = ri_at h0 K 3 := ri_frf Ch341 (k := K) (d := 7) hK7 rfl (by decide +kernel)
      have Wh341 := zOK_fr Ch341 (by decide +kernel) hOK
      refine ex_pop oq_X5_readPart_30 rfl ?_
      exact ex_retv oq_X5_readPart_31 rfl (hQ h341 Th341 Fh341 Wh341 (.inl (by have := (Sh341).1; omega)))
set_option maxHeartbeats 16000000 in
theorem ct_partD1 {h0 : cv_H} {n p : Nat} (ht : ∀ i, t i = ri_at h0 1 i % 256) (hwd : ∀ i, i < 34 → ri_at h0 52 i = tz_wc.getD i 0) (hn9 : n ≤ 900) (hT : cw_T G h0) {b : Nat} (hb : b = 2 ∨ b = 26) (hpl : zPL b h0) {K : Nat} (hK7 : cw_sh[K]? = some 7) (hK44 : cw_sh[K + 1]? = some 44) (hKr : cw_at h0 K 16 = some (cv_r (K + 1))) (hS : zCs t n (.inr p) h0) (hZ : zk t n p = 1 ∧ zw t n p = 10) {D : Nat → Int} (hD : zKD h0 K D) {hh : Int} (hg1 : ri_at h0 K 1 = hh) (hh2 : 24 ≤ hh ∧ hh ≤ 72) {v1 v2 : Int} {q1 q2 : Nat}  (E1 : zn t n 12 60 (zx t n p) = .inr (v1, q1)) (E2 : zn t n 3 14 q1 = .inr (v2, q2)) (hQ : ∀ h', cw_T G h' → cw_Fr cw_Ds cw_sh kk_X5_readPart.2.2.2.2.2.1 h0 h' → zOK K h0 h' → (ri_at h' 50 4 ≠ 0 ∨ zKD h' K (zgU (zgU D 7 v1) 8 v2)) → Q (none, h')) : cw_X X 68 Q 0 (cv_ent 0 [cv_r 50, cv_r K]) [] h0 := by
  have Fh0 : cw_Fr cw_Ds cw_sh kk_X5_readPart.2.2.2.2.2.1 h0 h0 := cw_Fr_refl
  have hA : ∀ h, cw_Fr cw_Ds cw_sh kk_X5_readPart.2.2.2.2.2.1 h0 h → ∀ i, ri_at h 1 i = ri_at h0 1 i := fun h F i => ri_frr F (k := 1) (d := 13) rfl rfl (by decide +kernel)
  have hB : ∀ h, cw_Fr cw_Ds cw_sh kk_X5_readPart.2.2.2.2.2.1 h0 h → ∀ i, ri_at h 52 i = ri_at h0 52 i := fun h F i => ri_frr F (k := 52) (d := 43) rfl rfl (by decide +kernel)
  have hPL : ∀ h, cw_Fr cw_Ds cw_sh kk_X5_readPart.2.2.2.2.2.1 h0 h → zPL b h := fun h F => zPL_fr hb F (by decide +kernel) hpl
  have hb4 : cw_sh[b]? = some 4 := by rcases hb with rfl | rfl <;> rfl
  have hkb1 : cw_sh[b + 1]? = some 28 := by rcases hb with rfl | rfl <;> rfl
  have hkb2 : cw_sh[b + 2]? = some 29 := by rcases hb with rfl | rfl <;> rfl
  have hkb3 : cw_sh[b + 3]? = some 30 := by rcases hb with rfl | rfl <;> rfl
  have hkb4 : cw_sh[b + 4]? = some 31 := by rcases hb with rfl | rfl <;> rfl
  have hkb5 : cw_sh[b + 5]? = some 32 := by rcases hb with rfl | rfl <;> rfl
  have hkb6 : cw_sh[b + 6]? = some 33 := by rcases hb with rfl | rfl <;> rfl
  have hkb7 : cw_sh[b + 7]? = some 34 := by rcases hb with rfl | rfl <;> rfl
  have hkb8 : cw_sh[b + 8]? = some 35 := by rcases hb with rfl | rfl <;> rfl
  have hkb9 : cw_sh[b + 9]? = some 36 := by rcases hb with rfl | rfl <;> rfl
  have hkb10 : cw_sh[b + 10]? = some 37 := by rcases hb with rfl | rfl <;> rfl
  have hkb11 : cw_sh[b + 11]? = some 38 := by rcases hb with rfl | rfl <;> rfl
  have hkb12 : cw_sh[b + 12]? = some 39 := by rcases hb with rfl | rfl <;> rfl
  have hkb13 : cw_sh[b + 13]? = some 40 := by rcases hb with rfl | rfl <;> rfl
  have hkb14 : cw_sh[b + 14]? = some 41 := by rcases hb with rfl | rfl <;> rfl
  have hkb15 : cw_sh[b + 15]? = some 42 := by rcases hb with rfl | rfl <;> rfl
  have hKR : ∀ h, cw_Fr cw_Ds cw_sh kk_X5_readPart.2.2.2.2.2.1 h0 h → cw_at h K 16 = some (cv_r (K + 1)) := fun h F => (F.2 K 7 16 hK7 (by decide +kernel)).trans hKr
  have hOK : zOK K h0 h0 := zOK_0
  refine ex_al oq_X5_readPart_0 rfl ?_
  refine ex_gf oq_X5_readPart_1 hT (k := 50) (d := 5) rfl rfl (ri_ref (k := 50) (k' := 51) (d := 5) (f := 0) hT rfl rfl rfl (by decide) (ri_uniq (by decide +kernel))) ?_
  obtain ⟨pnh0, yah0, ybh0, ych0, ydh0, yfh0⟩ := zCs_at hS
  obtain ⟨kch0, ykh0⟩ : ∃ k, ri_at h0 51 4 = k := ⟨_, rfl⟩
  obtain ⟨vch0, yvh0⟩ : ∃ k, ri_at h0 51 6 = k := ⟨_, rfl⟩
  rw [ykh0, yvh0] at ydh0
  replace ydh0 := zhd_i ydh0
  have rlw := rl_pw (show tz_rel _ _ _ _ from ydh0)
  have zlh0 := zx_le (t := t) (n := n) (p := p) (by omega)
  obtain ⟨x301, ax301, rx301, lx301, ux301⟩ := ri_fld (k := 51) (d := 6) (f := 6) hT rfl rfl rfl
  try dsimp only at lx301 ux301
  refine ex_gf oq_X5_readPart_4 hT (k := 51) (d := 6) rfl rfl ax301 ?_
  clear lx301 ux301
  have rx301 := (rx301.symm.trans yvh0 : x301.toInt = vch0)
  refine ex_isA oq_X5_readPart_7 (fun L302 gL302_2 kL302 => ?_)
  have gL302_0 : cv_get L302 0 = some (cv_r 50) := kL302 0 _ (by decide) (fun q => absurd q (by decide)) rfl
  have gL302_1 : cv_get L302 1 = some (cv_r K) := kL302 1 _ (by decide) (fun _ => rfl) rfl
  refine ex_il oq_X5_readPart_8 gL302_2 ?_
  refine ex_bi oq_X5_readPart_9 (m := 16) (by decide) (fun x303 hx303 => ?_)
  refine ex_if oq_X5_readPart_11 (t := 32) rfl rfl (fun (c304 : x301.toInt = x303.toInt) => ?_) (fun (c304 : ¬ (x301.toInt = x303.toInt)) => ?_)
  · exfalso; omega
  · refine ex_al oq_X5_readPart_14 gL302_1 ?_
    obtain ⟨x305, ax305, rx305, lx305, ux305⟩ := ri_fld (k := K) (d := 7) (f := 15) hT hK7 rfl rfl
    try dsimp only at lx305 ux305
    refine ex_gf oq_X5_readPart_15 hT (k := K) (d := 7) hK7 rfl ax305 ?_
    clear lx305 ux305
    refine ex_ic oq_X5_readPart_18 (m := 1) (by decide) (fun x306 hx306 => ?_)
    refine ex_il oq_X5_readPart_19 gL302_2 ?_
    refine ex_any (f := fun x y => some x) oq_X5_readPart_20 rfl (fun x307 => ?_)
    refine ex_any (f := fun x y => some x) oq_X5_readPart_21 rfl (fun x308 => ?_)
    refine ex_if0 oq_X5_readPart_22 (t := 32) rfl rfl (fun (c309 : x308.toInt = 0) => ?_) (fun (c309 : ¬ (x308.toInt = 0)) => ?_)
    · refine ex_al oq_X5_readPart_32 gL302_1 ?_
      refine ex_dup oq_X5_readPart_33 rfl ?_
      obtain ⟨x310, ax310, rx310, lx310, ux310⟩ := ri_fld (k := K) (d := 7) (f := 15) hT hK7 rfl rfl
      try dsimp only at lx310 ux310
      refine ex_gf oq_X5_readPart_34 hT (k := K) (d := 7) hK7 rfl ax310 ?_
      clear lx310 ux310
      refine ex_ic oq_X5_readPart_37 (m := 1) (by decide) (fun x311 hx311 => ?_)
      refine ex_il oq_X5_readPart_38 gL302_2 ?_
      refine ex_any (f := fun x y => some x) oq_X5_readPart_39 rfl (fun x312 => ?_)
      refine ex_any (f := fun x y => some x) oq_X5_readPart_40 rfl (fun x313 => ?_)
      refine ex_pfi oq_X5_readPart_41 hT (k := K) (d := 7) hK7 rfl rfl (cw_i32 _).1 (cw_i32 _).2 (fun h314 Th314 wh314 => ?_)
      have Fh314 : cw_Fr cw_Ds cw_sh kk_X5_readPart.2.2.2.2.2.1 h0 h314 := cw_Fr_tr Fh0 (cw_Fr_wrf wh314 (k := K) (d := 7) hK7 rfl (by decide +kernel))
      have eh314_K_1 : ri_at h314 K 1 = hh := (ri_ne wh314 (.inr (by decide))).trans hg1
      have Sh314 := zCs_wr (d := 7) (k := K) wh314 hK7 hS (.inl ⟨by decide, by decide⟩)
      have Wh314 := zOK_K wh314 hK7 hOK
      refine ex_al oq_X5_readPart_44 gL302_0 ?_
      refine ex_gf oq_X5_readPart_45 Th314 (k := 50) (d := 5) rfl rfl (ri_ref (k := 50) (k' := 51) (d := 5) (f := 0) Th314 rfl rfl rfl (by decide) (ri_uniq (by decide +kernel))) ?_
      refine ex_cv oq_X5_readPart_48 (by decide) Th314 (k := 51) (d := 6) (as := []) (stk := []) rfl rfl rfl rfl rfl rfl ⟨rfl, rfl⟩ (R := fun o => ∃ hb : cv_H, o = (none, hb) ∧ cw_T G hb ∧ cw_Fr cw_Ds cw_sh kk_X6_step.2.2.2.2.2.1 h314 hb ∧ zCs t n (.inr (zx t n p)) hb) (ct_stepC (t := t) (n := n) (p := p) (fun i => by rw [ht, ← hA _ Fh314]) (fun i hi => by rw [hB _ Fh314]; exact hwd i hi) hn9 Th314 Sh314 (fun hb b1 b2 b3 => ⟨hb, rfl, b1, b2, b3⟩)) (fun o ho => ?_)
      obtain ⟨h315, rfl, Th315, Ch315, Sh315⟩ := ho
      show cw_X _ _ _ _ _ [] h315
      have Fh315 : cw_Fr cw_Ds cw_sh kk_X5_readPart.2.2.2.2.2.1 h0 h315 := cw_Fr_tr Fh314 (cw_Fr_mono (by decide +kernel) Ch315)
      have eh315_K_1 : ri_at h315 K 1 = hh := (ri_frf Ch315 (k := K) (d := 7) hK7 rfl (by decide +kernel)).trans eh314_K_1
      clear eh314_K_1
      have Wh315 := zOK_fr Ch315 (by decide +kernel) Wh314
      clear Wh314
      clear yah0 ybh0 ych0 ykh0 yvh0 yfh0
      obtain ⟨pnh315, yah315, ybh315, ych315, ydh315, yfh315⟩ := zCs_at Sh315
      obtain ⟨kch315, ykh315⟩ : ∃ k, ri_at h315 51 4 = k := ⟨_, rfl⟩
      obtain ⟨vch315, yvh315⟩ : ∃ k, ri_at h315 51 6 = k := ⟨_, rfl⟩
      rw [ykh315, yvh315] at ydh315
      replace ydh315 := zhd_i ydh315
      have zlh315 := zx_le (t := t) (n := n) (p := (zx t n p)) (by omega)
      refine ex_il oq_X5_readPart_51 gL302_2 ?_
      refine ex_tsw oq_X5_readPart_52 rfl (fun c316 => ⟨rfl, ?_⟩) (fun i hi c316 => ?_)
      · show cw_X _ _ _ 279 _ _ _
        exfalso; omega
      · match i, hi, c316 with
        | 0, _, c316 =>
          refine ⟨rfl, ?_⟩
          show cw_X _ _ _ 96 _ _ _
          exfalso; omega
        | 1, _, c316 =>
          refine ⟨rfl, ?_⟩
          show cw_X _ _ _ 154 _ _ _
          refine ex_al oq_X5_readPart_154 gL302_1 ?_
          refine ex_al oq_X5_readPart_155 gL302_0 ?_
          refine ex_bi oq_X5_readPart_156 (m := 12) (by decide) (fun x317 hx317 => ?_)
          refine ex_bi oq_X5_readPart_158 (m := 60) (by decide) (fun x318 hx318 => ?_)
          refine ex_cv oq_X5_readPart_160 (by decide) Th315 (k := 50) (d := 5) (as := [cv_i x317, cv_i x318]) (stk := [cv_r K]) rfl rfl rfl rfl rfl rfl ⟨rfl, rfl⟩ (R := fun o => ∃ (x : Int32) (hb : cv_H), o = (some (cv_i x), hb) ∧ cw_T G hb ∧ cw_Fr cw_Ds cw_sh kk_X5_readNumber_1.2.2.2.2.2.1 h315 hb ∧ zCr t n hb x (zn t n x317.toInt x318.toInt (zx t n p))) (ct_readNumber (t := t) (n := n) (fun i => by rw [ht, ← hA _ Fh315]) (fun i hi => by rw [hB _ Fh315]; exact hwd i hi) hn9 Th315 Sh315 x317 x318 (by omega) (by omega) (fun x hb b1 b2 b3 => ⟨x, hb, rfl, b1, b2, b3⟩)) (fun o ho => ?_)
          obtain ⟨x319, h320, rfl, Th320, Ch320, dx319⟩ := ho
          show cw_X _ _ _ _ _ [cv_i x319, cv_r K] h320
          rw [hx317, hx318] at dx319
          rw [E1] at dx319
          obtain ⟨wx319, Sh320⟩ := zCr_r dx319
          clear dx319
          have Fh320 : cw_Fr cw_Ds cw_sh kk_X5_readPart.2.2.2.2.2.1 h0 h320 := cw_Fr_tr Fh315 (cw_Fr_mono (by decide +kernel) Ch320)
          have eh320_K_1 : ri_at h320 K 1 = hh := (ri_frf Ch320 (k := K) (d := 7) hK7 rfl (by decide +kernel)).trans eh315_K_1
          clear eh315_K_1
          have Wh320 := zOK_fr Ch320 (by decide +kernel) Wh315
          clear Wh315
          clear yah315 ybh315 ych315 ykh315 yvh315 yfh315
          obtain ⟨pnh320, yah320, ybh320, ych320, ydh320, yfh320⟩ := zCs_at Sh320
          obtain ⟨kch320, ykh320⟩ : ∃ k, ri_at h320 51 4 = k := ⟨_, rfl⟩
          obtain ⟨vch320, yvh320⟩ : ∃ k, ri_at h320 51 6 = k := ⟨_, rfl⟩
          rw [ykh320, yvh320] at ydh320
          replace ydh320 := zhd_i ydh320
          have zlh320 := zx_le (t := t) (n := n) (p := q1) (by omega)
          refine ex_pfi oq_X5_readPart_163 Th320 (k := K) (d := 7) hK7 rfl rfl (cw_i32 _).1 (cw_i32 _).2 (fun h321 Th321 wh321 => ?_)
          have Fh321 : cw_Fr cw_Ds cw_sh kk_X5_readPart.2.2.2.2.2.1 h0 h321 := cw_Fr_tr Fh320 (cw_Fr_wrf wh321 (k := K) (d := 7) hK7 rfl (by decide +kernel))
          have eh321_K_1 : ri_at h321 K 1 = hh := (ri_ne wh321 (.inr (by decide))).trans eh320_K_1
          clear eh320_K_1
          have Sh321 := zCs_wr (d := 7) (k := K) wh321 hK7 Sh320 (.inl ⟨by decide, by decide⟩)
          have Wh321 := zOK_K wh321 hK7 Wh320
          clear Wh320
          refine ex_al oq_X5_readPart_166 gL302_1 ?_
          refine ex_al oq_X5_readPart_167 gL302_0 ?_
          refine ex_ic oq_X5_readPart_168 (m := 3) (by decide) (fun x322 hx322 => ?_)
          refine ex_bi oq_X5_readPart_169 (m := 14) (by decide) (fun x323 hx323 => ?_)
          refine ex_cv oq_X5_readPart_171 (by decide) Th321 (k := 50) (d := 5) (as := [cv_i x322, cv_i x323]) (stk := [cv_r K]) rfl rfl rfl rfl rfl rfl ⟨rfl, rfl⟩ (R := fun o => ∃ (x : Int32) (hb : cv_H), o = (some (cv_i x), hb) ∧ cw_T G hb ∧ cw_Fr cw_Ds cw_sh kk_X5_readNumber_1.2.2.2.2.2.1 h321 hb ∧ zCr t n hb x (zn t n x322.toInt x323.toInt q1)) (ct_readNumber (t := t) (n := n) (fun i => by rw [ht, ← hA _ Fh321]) (fun i hi => by rw [hB _ Fh321]; exact hwd i hi) hn9 Th321 Sh321 x322 x323 (by omega) (by omega) (fun x hb b1 b2 b3 => ⟨x, hb, rfl, b1, b2, b3⟩)) (fun o ho => ?_)
          obtain ⟨x324, h325, rfl, Th325, Ch325, dx324⟩ := ho
          show cw_X _ _ _ _ _ [cv_i x324, cv_r K] h325
          rw [hx322, hx323] at dx324
          rw [E2] at dx324
          obtain ⟨wx324, Sh325⟩ := zCr_r dx324
          clear dx324
          have Fh325 : cw_Fr cw_Ds cw_sh kk_X5_readPart.2.2.2.2.2.1 h0 h325 := cw_Fr_tr Fh321 (cw_Fr_mono (by decide +kernel) Ch325)
          have eh325_K_1 : ri_at h325 K 1 = hh := (ri_frf Ch325 (k := K) (d := 7) hK7 rfl (by decide +kernel)).trans eh321_K_1
          clear eh321_K_1
          have Wh325 := zOK_fr Ch325 (by decide +kernel) Wh321
          clear Wh321
          clear yah320 ybh320 ych320 ykh320 yvh320 yfh320
          obtain ⟨pnh325, yah325, ybh325, ych325, ydh325, yfh325⟩ := zCs_at Sh325
          obtain ⟨kch325, ykh325⟩ : ∃ k, ri_at h325 51 4 = k := ⟨_, rfl⟩
          obtain ⟨vch325, yvh325⟩ : ∃ k, ri_at h325 51 6 = k := ⟨_, rfl⟩
          rw [ykh325, yvh325] at ydh325
          replace ydh325 := zhd_i ydh325
          have zlh325 := zx_le (t := t) (n := n) (p := q2) (by omega)
          refine ex_pfi oq_X5_readPart_174 Th325 (k := K) (d := 7) hK7 rfl rfl (cw_i32 _).1 (cw_i32 _).2 (fun h326 Th326 wh326 => ?_)
          have Fh326 : cw_Fr cw_Ds cw_sh kk_X5_readPart.2.2.2.2.2.1 h0 h326 := cw_Fr_tr Fh325 (cw_Fr_wrf wh326 (k := K) (d := 7) hK7 rfl (by decide +kernel))
          have eh326_K_1 : ri_at h326 K 1 = hh := (ri_ne wh326 (.inr (by decide))).trans eh325_K_1
          clear eh325_K_1
          have Sh326 := zCs_wr (d := 7) (k := K) wh326 hK7 Sh325 (.inl ⟨by decide, by decide⟩)
          have Wh326 := zOK_K wh326 hK7 Wh325
          clear Wh325
          refine ex_go oq_X5_readPart_177 (t := 284) rfl rfl ?_
          exact ex_retv oq_X5_readPart_284 rfl (hQ h326 Th326 Fh326 Wh326 (.inr ⟨fun j hj => match j, hj with | 0, _ => (((ri_ne wh326 (.inr (by decide))).trans ((ri_frf Ch325 (k := K) (d := 7) hK7 rfl (by decide +kernel)).trans ((ri_ne wh321 (.inr (by decide))).trans ((ri_frf Ch320 (k := K) (d := 7) hK7 rfl (by decide +kernel)).trans ((ri_frf Ch315 (k := K) (d := 7) hK7 rfl (by decide +kernel)).trans (ri_ne wh314 (.inr (by decide))))))))).trans ((hD.1 0 (by decide)).trans (by rw [zgU_ne (by decide), zgU_ne (by decide)])) | 1, _ => (((ri_ne wh326 (.inr (by decide))).trans ((ri_frf Ch325 (k := K) (d := 7) hK7 rfl (by decide +kernel)).trans ((ri_ne wh321 (.inr (by decide))).trans ((ri_frf Ch320 (k := K) (d := 7) hK7 rfl (by decide +kernel)).trans ((ri_frf Ch315 (k := K) (d := 7) hK7 rfl (by decide +kernel)).trans (ri_ne wh314 (.inr (by decide))))))))).trans ((hD.1 1 (by decide)).trans (by rw [zgU_ne (by decide), zgU_ne (by decide)])) | 2, _ => (((ri_ne wh326 (.inr (by decide))).trans ((ri_frf Ch325 (k := K) (d := 7) hK7 rfl (by decide +kernel)).trans ((ri_ne wh321 (.inr (by decide))).trans ((ri_frf Ch320 (k := K) (d := 7) hK7 rfl (by decide +kernel)).trans ((ri_frf Ch315 (k := K) (d := 7) hK7 rfl (by decide +kernel)).trans (ri_ne wh314 (.inr (by decide))))))))).trans ((hD.1 2 (by decide)).trans (by rw [zgU_ne (by decide), zgU_ne (by decide)])) | 3, _ => (((ri_ne wh326 (.inr (by decide))).trans ((ri_frf Ch325 (k := K) (d := 7) hK7 rfl (by decide +kernel)).trans ((ri_ne wh321 (.inr (by decide))).trans ((ri_frf Ch320 (k := K) (d := 7) hK7 rfl (by decide +kernel)).trans ((ri_frf Ch315 (k := K) (d := 7) hK7 rfl (by decide +kernel)).trans (ri_ne wh314 (.inr (by decide))))))))).trans ((hD.1 3 (by decide)).trans (by rw [zgU_ne (by decide), zgU_ne (by decide)])) | 4, _ => (((ri_ne wh326 (.inr (by decide))).trans ((ri_frf Ch325 (k := K) (d := 7) hK7 rfl (by decide +kernel)).trans ((ri_ne wh321 (.inr (by decide))).trans ((ri_frf Ch320 (k := K) (d := 7) hK7 rfl (by decide +kernel)).trans ((ri_frf Ch315 (k := K) (d := 7) hK7 rfl (by decide +kernel)).trans (ri_ne wh314 (.inr (by decide))))))))).trans ((hD.1 4 (by decide)).trans (by rw [zgU_ne (by decide), zgU_ne (by decide)])) | 5, _ => (((ri_ne wh326 (.inr (by decide))).trans ((ri_frf Ch325 (k := K) (d := 7) hK7 rfl (by decide +kernel)).trans ((ri_ne wh321 (.inr (by decide))).trans ((ri_frf Ch320 (k := K) (d := 7) hK7 rfl (by decide +kernel)).trans ((ri_frf Ch315 (k := K) (d := 7) hK7 rfl (by decide +kernel)).trans (ri_ne wh314 (.inr (by decide))))))))).trans ((hD.1 5 (by decide)).trans (by rw [zgU_ne (by decide), zgU_ne (by decide)])) | 6, _ => (((ri_ne wh326 (.inr (by decide))).trans ((ri_frf Ch325 (k := K) (d := 7) hK7 rfl (by decide +kernel)).trans ((ri_ne wh321 (.inr (by decide))).trans ((ri_frf Ch320 (k := K) (d := 7) hK7 rfl (by decide +kernel)).trans ((ri_frf Ch315 (k := K) (d := 7) hK7 rfl (by decide +kernel)).trans (ri_ne wh314 (.inr (by decide))))))))).trans ((hD.1 6 (by decide)).trans (by rw [zgU_ne (by decide), zgU_ne (by decide)])) | 7, _ => (((((ri_ne wh326 (.inr (by decide))).trans (ri_frf Ch325 (k := K) (d := 7) hK7 rfl (by decide +kernel)))).trans (ri_self wh321))).trans ((show x319.toInt = v1 from by omega).trans (by rw [zgU_ne (by decide), zgU_eq])) | 8, _ => (((rfl).trans (ri_self wh326))).trans ((show x324.toInt = v2 from by omega).trans (by rw [zgU_eq])) | 9, _ => (((ri_ne wh326 (.inr (by decide))).trans ((ri_frf Ch325 (k := K) (d := 7) hK7 rfl (by decide +kernel)).trans ((ri_ne wh321 (.inr (by decide))).trans ((ri_frf Ch320 (k := K) (d := 7) hK7 rfl (by decide +kernel)).trans ((ri_frf Ch315 (k := K) (d := 7) hK7 rfl (by decide +kernel)).trans (ri_ne wh314 (.inr (by decide))))))))).trans ((hD.1 9 (by decide)).trans (by rw [zgU_ne (by decide), zgU_ne (by decide)])) | 10, _ => (((ri_ne wh326 (.inr (by decide))).trans ((ri_frf Ch325 (k := K) (d := 7) hK7 rfl (by decide +kernel)).trans ((ri_ne wh321 (.inr (by decide))).trans ((ri_frf Ch320 (k := K) (d := 7) hK7 rfl (by decide +kernel)).trans ((ri_frf Ch315 (k := K) (d := 7) hK7 rfl (by decide +kernel)).trans (ri_ne wh314 (.inr (by decide))))))))).trans ((hD.1 10 (by decide)).trans (by rw [zgU_ne (by decide), zgU_ne (by decide)])) | 11, _ => (((ri_ne wh326 (.inr (by decide))).trans ((ri_frf Ch325 (k := K) (d := 7) hK7 rfl (by decide +kernel)).trans ((ri_ne wh321 (.inr (by decide))).trans ((ri_frf Ch320 (k := K) (d := 7) hK7 rfl (by decide +kernel)).trans ((ri_frf Ch315 (k := K) (d := 7) hK7 rfl (by decide +kernel)).trans (ri_ne wh314 (.inr (by decide))))))))).trans ((hD.1 11 (by decide)).trans (by rw [zgU_ne (by decide), zgU_ne (by decide)])) | 12, _ => (((ri_ne wh326 (.inr (by decide))).trans ((ri_frf Ch325 (k := K) (d := 7) hK7 rfl (by decide +kernel)).trans ((ri_ne wh321 (.inr (by decide))).trans ((ri_frf Ch320 (k := K) (d := 7) hK7 rfl (by decide +kernel)).trans ((ri_frf Ch315 (k := K) (d := 7) hK7 rfl (by decide +kernel)).trans (ri_ne wh314 (.inr (by decide))))))))).trans ((hD.1 12 (by decide)).trans (by rw [zgU_ne (by decide), zgU_ne (by decide)])) | 13, _ => (((ri_ne wh326 (.inr (by decide))).trans ((ri_frf Ch325 (k := K) (d := 7) hK7 rfl (by decide +kernel)).trans ((ri_ne wh321 (.inr (by decide))).trans ((ri_frf Ch320 (k := K) (d := 7) hK7 rfl (by decide +kernel)).trans ((ri_frf Ch315 (k := K) (d := 7) hK7 rfl (by decide +kernel)).trans (ri_ne wh314 (.inr (by decide))))))))).trans ((hD.1 13 (by decide)).trans (by rw [zgU_ne (by decide), zgU_ne (by decide)])) | j + 14, hj => absurd hj (by omega), fun j hj => (((ri_ne wh326 (.inl (cw_kne (k := (K + 1)) (d := 44) (k' := K) (d' := 7) hK44 hK7 (by decide)))).trans ((ri_frr Ch325 (k := (K + 1)) (d := 44) hK44 rfl (by decide +kernel)).trans ((ri_ne wh321 (.inl (cw_kne (k := (K + 1)) (d := 44) (k' := K) (d' := 7) hK44 hK7 (by decide)))).trans ((ri_frr Ch320 (k := (K + 1)) (d := 44) hK44 rfl (by decide +kernel)).trans ((ri_frr Ch315 (k := (K + 1)) (d := 44) hK44 rfl (by decide +kernel)).trans (ri_ne wh314 (.inl (cw_kne (k := (K + 1)) (d := 44) (k' := K) (d' := 7) hK44 hK7 (by decide)))))))))).trans ((hD.2 j hj).trans (by rw [zgU_ne (by omega), zgU_ne (by omega)]))⟩))
        | 2, _, c316 =>
          refine ⟨rfl, ?_⟩
          show cw_X _ _ _ 180 _ _ _
          exfalso; omega
        | 3, _, c316 =>
          refine ⟨rfl, ?_⟩
          show cw_X _ _ _ 188 _ _ _
          exfalso; omega
        | 4, _, c316 =>
          refine ⟨rfl, ?_⟩
          show cw_X _ _ _ 215 _ _ _
          exfalso; omega
        | 5, _, c316 =>
          refine ⟨rfl, ?_⟩
          show cw_X _ _ _ 230 _ _ _
          exfalso; omega
        | 6, _, c316 =>
          refine ⟨rfl, ?_⟩
          show cw_X _ _ _ 245 _ _ _
          exfalso; omega
        | i + 7, hi, _ => exact absurd hi (by show ¬ i + 7 < 7; omega)
    · refine ex_al oq_X5_readPart_25 gL302_0 ?_
      refine ex_ic oq_X5_readPart_26 (m := 3) (by decide) (fun x327 hx327 => ?_)
      refine ex_cv oq_X5_readPart_27 (by decide) hT (k := 50) (d := 5) (as := [cv_i x327]) (stk := []) rfl rfl rfl rfl rfl rfl ⟨rfl, rfl⟩ (R := fun o => ∃ (x : Int32) (hb : cv_H), o = (some (cv_i x), hb) ∧ cw_T G hb ∧ cw_Fr cw_Ds cw_sh kk_X5_fail.2.2.2.2.2.1 h0 hb ∧ x.toInt = 0 ∧ zCs t n (.inl (3, za t n p)) hb) (ct_failP (t := t) (n := n) (p := p) hT hS x327 hx327 (by decide) (fun x hb b1 b2 b3 b4 => ⟨x, hb, rfl, b1, b2, b3, b4⟩)) (fun o ho => ?_)
      obtain ⟨x328, h329, rfl, Th329, Ch329, zh329, Sh329⟩ := ho
      show cw_X _ _ _ _ _ [cv_i x328] h329
      have Fh329 : cw_Fr cw_Ds cw_sh kk_X5_readPart.2.2.2.2.2.1 h0 h329 := cw_Fr_tr Fh0 (cw_Fr_mono (by decide +kernel) Ch329)
      have eh329_K_1 : ri_at h329 K 1 = hh := (ri_frf Ch329 (k := K) (d := 7) hK7 rfl (by decide +kernel)).trans hg1
      have Wh329 := zOK_fr Ch329 (by decide +kernel) hOK
      refine ex_pop oq_X5_readPart_30 rfl ?_
      exact ex_retv oq_X5_readPart_31 rfl (hQ h329 Th329 Fh329 Wh329 (.inl (by have := (Sh329).1; omega)))
set_option maxHeartbeats 16000000 in
theorem ct_partD2 {h0 : cv_H} {n p : Nat} (ht : ∀ i, t i = ri_at h0 1 i % 256) (hwd : ∀ i, i < 34 → ri_at h0 52 i = tz_wc.getD i 0) (hn9 : n ≤ 900) (hT : cw_T G h0) {b : Nat} (hb : b = 2 ∨ b = 26) (hpl : zPL b h0) {K : Nat} (hK7 : cw_sh[K]? = some 7) (hK44 : cw_sh[K + 1]? = some 44) (hKr : cw_at h0 K 16 = some (cv_r (K + 1))) (hS : zCs t n (.inr p) h0) (hZ : zk t n p = 1 ∧ zw t n p = 11) {D : Nat → Int} (hD : zKD h0 K D) {hh : Int} (hg1 : ri_at h0 K 1 = hh) (hh2 : 24 ≤ hh ∧ hh ≤ 72)  (E1 : zk t n (zx t n p) = 1 ∧ (zw t n (zx t n p) = 28 ∨ zw t n (zx t n p) = 29)) (hQ : ∀ h', cw_T G h' → cw_Fr cw_Ds cw_sh kk_X5_readPart.2.2.2.2.2.1 h0 h' → zOK K h0 h' → (ri_at h' 50 4 ≠ 0 ∨ zKD h' K (zgU D 9 (if zw t n (zx t n p) = 28 then 1 else 2))) → Q (none, h')) : cw_X X 68 Q 0 (cv_ent 0 [cv_r 50, cv_r K]) [] h0 := by
  have Fh0 : cw_Fr cw_Ds cw_sh kk_X5_readPart.2.2.2.2.2.1 h0 h0 := cw_Fr_refl
  have hA : ∀ h, cw_Fr cw_Ds cw_sh kk_X5_readPart.2.2.2.2.2.1 h0 h → ∀ i, ri_at h 1 i = ri_at h0 1 i := fun h F i => ri_frr F (k := 1) (d := 13) rfl rfl (by decide +kernel)
  have hB : ∀ h, cw_Fr cw_Ds cw_sh kk_X5_readPart.2.2.2.2.2.1 h0 h → ∀ i, ri_at h 52 i = ri_at h0 52 i := fun h F i => ri_frr F (k := 52) (d := 43) rfl rfl (by decide +kernel)
  have hPL : ∀ h, cw_Fr cw_Ds cw_sh kk_X5_readPart.2.2.2.2.2.1 h0 h → zPL b h := fun h F => zPL_fr hb F (by decide +kernel) hpl
  have hb4 : cw_sh[b]? = some 4 := by rcases hb with rfl | rfl <;> rfl
  have hkb1 : cw_sh[b + 1]? = some 28 := by rcases hb with rfl | rfl <;> rfl
  have hkb2 : cw_sh[b + 2]? = some 29 := by rcases hb with rfl | rfl <;> rfl
  have hkb3 : cw_sh[b + 3]? = some 30 := by rcases hb with rfl | rfl <;> rfl
  have hkb4 : cw_sh[b + 4]? = some 31 := by rcases hb with rfl | rfl <;> rfl
  have hkb5 : cw_sh[b + 5]? = some 32 := by rcases hb with rfl | rfl <;> rfl
  have hkb6 : cw_sh[b + 6]? = some 33 := by rcases hb with rfl | rfl <;> rfl
  have hkb7 : cw_sh[b + 7]? = some 34 := by rcases hb with rfl | rfl <;> rfl
  have hkb8 : cw_sh[b + 8]? = some 35 := by rcases hb with rfl | rfl <;> rfl
  have hkb9 : cw_sh[b + 9]? = some 36 := by rcases hb with rfl | rfl <;> rfl
  have hkb10 : cw_sh[b + 10]? = some 37 := by rcases hb with rfl | rfl <;> rfl
  have hkb11 : cw_sh[b + 11]? = some 38 := by rcases hb with rfl | rfl <;> rfl
  have hkb12 : cw_sh[b + 12]? = some 39 := by rcases hb with rfl | rfl <;> rfl
  have hkb13 : cw_sh[b + 13]? = some 40 := by rcases hb with rfl | rfl <;> rfl
  have hkb14 : cw_sh[b + 14]? = some 41 := by rcases hb with rfl | rfl <;> rfl
  have hkb15 : cw_sh[b + 15]? = some 42 := by rcases hb with rfl | rfl <;> rfl
  have hKR : ∀ h, cw_Fr cw_Ds cw_sh kk_X5_readPart.2.2.2.2.2.1 h0 h → cw_at h K 16 = some (cv_r (K + 1)) := fun h F => (F.2 K 7 16 hK7 (by decide +kernel)).trans hKr
  have hOK : zOK K h0 h0 := zOK_0
  refine ex_al oq_X5_readPart_0 rfl ?_
  refine ex_gf oq_X5_readPart_1 hT (k := 50) (d := 5) rfl rfl (ri_ref (k := 50) (k' := 51) (d := 5) (f := 0) hT rfl rfl rfl (by decide) (ri_uniq (by decide +kernel))) ?_
  obtain ⟨pnh0, yah0, ybh0, ych0, ydh0, yfh0⟩ := zCs_at hS
  obtain ⟨kch0, ykh0⟩ : ∃ k, ri_at h0 51 4 = k := ⟨_, rfl⟩
  obtain ⟨vch0, yvh0⟩ : ∃ k, ri_at h0 51 6 = k := ⟨_, rfl⟩
  rw [ykh0, yvh0] at ydh0
  replace ydh0 := zhd_i ydh0
  have rlw := rl_pw (show tz_rel _ _ _ _ from ydh0)
  have zlh0 := zx_le (t := t) (n := n) (p := p) (by omega)
  obtain ⟨x301, ax301, rx301, lx301, ux301⟩ := ri_fld (k := 51) (d := 6) (f := 6) hT rfl rfl rfl
  try dsimp only at lx301 ux301
  refine ex_gf oq_X5_readPart_4 hT (k := 51) (d := 6) rfl rfl ax301 ?_
  clear lx301 ux301
  have rx301 := (rx301.symm.trans yvh0 : x301.toInt = vch0)
  refine ex_isA oq_X5_readPart_7 (fun L302 gL302_2 kL302 => ?_)
  have gL302_0 : cv_get L302 0 = some (cv_r 50) := kL302 0 _ (by decide) (fun q => absurd q (by decide)) rfl
  have gL302_1 : cv_get L302 1 = some (cv_r K) := kL302 1 _ (by decide) (fun _ => rfl) rfl
  refine ex_il oq_X5_readPart_8 gL302_2 ?_
  refine ex_bi oq_X5_readPart_9 (m := 16) (by decide) (fun x303 hx303 => ?_)
  refine ex_if oq_X5_readPart_11 (t := 32) rfl rfl (fun (c304 : x301.toInt = x303.toInt) => ?_) (fun (c304 : ¬ (x301.toInt = x303.toInt)) => ?_)
  · exfalso; omega
  · refine ex_al oq_X5_readPart_14 gL302_1 ?_
    obtain ⟨x305, ax305, rx305, lx305, ux305⟩ := ri_fld (k := K) (d := 7) (f := 15) hT hK7 rfl rfl
    try dsimp only at lx305 ux305
    refine ex_gf oq_X5_readPart_15 hT (k := K) (d := 7) hK7 rfl ax305 ?_
    clear lx305 ux305
    refine ex_ic oq_X5_readPart_18 (m := 1) (by decide) (fun x306 hx306 => ?_)
    refine ex_il oq_X5_readPart_19 gL302_2 ?_
    refine ex_any (f := fun x y => some x) oq_X5_readPart_20 rfl (fun x307 => ?_)
    refine ex_any (f := fun x y => some x) oq_X5_readPart_21 rfl (fun x308 => ?_)
    refine ex_if0 oq_X5_readPart_22 (t := 32) rfl rfl (fun (c309 : x308.toInt = 0) => ?_) (fun (c309 : ¬ (x308.toInt = 0)) => ?_)
    · refine ex_al oq_X5_readPart_32 gL302_1 ?_
      refine ex_dup oq_X5_readPart_33 rfl ?_
      obtain ⟨x310, ax310, rx310, lx310, ux310⟩ := ri_fld (k := K) (d := 7) (f := 15) hT hK7 rfl rfl
      try dsimp only at lx310 ux310
      refine ex_gf oq_X5_readPart_34 hT (k := K) (d := 7) hK7 rfl ax310 ?_
      clear lx310 ux310
      refine ex_ic oq_X5_readPart_37 (m := 1) (by decide) (fun x311 hx311 => ?_)
      refine ex_il oq_X5_readPart_38 gL302_2 ?_
      refine ex_any (f := fun x y => some x) oq_X5_readPart_39 rfl (fun x312 => ?_)
      refine ex_any (f := fun x y => some x) oq_X5_readPart_40 rfl (fun x313 => ?_)
      refine ex_pfi oq_X5_readPart_41 hT (k := K) (d := 7) hK7 rfl rfl (cw_i32 _).1 (cw_i32 _).2 (fun h314 Th314 wh314 => ?_)
      have Fh314 : cw_Fr cw_Ds cw_sh kk_X5_readPart.2.2.2.2.2.1 h0 h314 := cw_Fr_tr Fh0 (cw_Fr_wrf wh314 (k := K) (d := 7) hK7 rfl (by decide +kernel))
      have eh314_K_1 : ri_at h314 K 1 = hh := (ri_ne wh314 (.inr (by decide))).trans hg1
      have Sh314 := zCs_wr (d := 7) (k := K) wh314 hK7 hS (.inl ⟨by decide, by decide⟩)
      have Wh314 := zOK_K wh314 hK7 hOK
      refine ex_al oq_X5_readPart_44 gL302_0 ?_
      refine ex_gf oq_X5_readPart_45 Th314 (k := 50) (d := 5) rfl rfl (ri_ref (k := 50) (k' := 51) (d := 5) (f := 0) Th314 rfl rfl rfl (by decide) (ri_uniq (by decide +kernel))) ?_
      refine ex_cv oq_X5_readPart_48 (by decide) Th314 (k := 51) (d := 6) (as := []) (stk := []) rfl rfl rfl rfl rfl rfl ⟨rfl, rfl⟩ (R := fun o => ∃ hb : cv_H, o = (none, hb) ∧ cw_T G hb ∧ cw_Fr cw_Ds cw_sh kk_X6_step.2.2.2.2.2.1 h314 hb ∧ zCs t n (.inr (zx t n p)) hb) (ct_stepC (t := t) (n := n) (p := p) (fun i => by rw [ht, ← hA _ Fh314]) (fun i hi => by rw [hB _ Fh314]; exact hwd i hi) hn9 Th314 Sh314 (fun hb b1 b2 b3 => ⟨hb, rfl, b1, b2, b3⟩)) (fun o ho => ?_)
      obtain ⟨h315, rfl, Th315, Ch315, Sh315⟩ := ho
      show cw_X _ _ _ _ _ [] h315
      have Fh315 : cw_Fr cw_Ds cw_sh kk_X5_readPart.2.2.2.2.2.1 h0 h315 := cw_Fr_tr Fh314 (cw_Fr_mono (by decide +kernel) Ch315)
      have eh315_K_1 : ri_at h315 K 1 = hh := (ri_frf Ch315 (k := K) (d := 7) hK7 rfl (by decide +kernel)).trans eh314_K_1
      clear eh314_K_1
      have Wh315 := zOK_fr Ch315 (by decide +kernel) Wh314
      clear Wh314
      clear yah0 ybh0 ych0 ykh0 yvh0 yfh0
      obtain ⟨pnh315, yah315, ybh315, ych315, ydh315, yfh315⟩ := zCs_at Sh315
      obtain ⟨kch315, ykh315⟩ : ∃ k, ri_at h315 51 4 = k := ⟨_, rfl⟩
      obtain ⟨vch315, yvh315⟩ : ∃ k, ri_at h315 51 6 = k := ⟨_, rfl⟩
      rw [ykh315, yvh315] at ydh315
      replace ydh315 := zhd_i ydh315
      have zlh315 := zx_le (t := t) (n := n) (p := (zx t n p)) (by omega)
      refine ex_il oq_X5_readPart_51 gL302_2 ?_
      refine ex_tsw oq_X5_readPart_52 rfl (fun c316 => ⟨rfl, ?_⟩) (fun i hi c316 => ?_)
      · show cw_X _ _ _ 279 _ _ _
        exfalso; omega
      · match i, hi, c316 with
        | 0, _, c316 =>
          refine ⟨rfl, ?_⟩
          show cw_X _ _ _ 96 _ _ _
          exfalso; omega
        | 1, _, c316 =>
          refine ⟨rfl, ?_⟩
          show cw_X _ _ _ 154 _ _ _
          exfalso; omega
        | 2, _, c316 =>
          refine ⟨rfl, ?_⟩
          show cw_X _ _ _ 180 _ _ _
          refine ex_al oq_X5_readPart_180 gL302_0 ?_
          refine ex_al oq_X5_readPart_181 gL302_1 ?_
          refine ex_cv oq_X5_readPart_182 (by decide) Th315 (k := 50) (d := 5) (as := [cv_r K]) (stk := []) rfl rfl rfl rfl rfl rfl ⟨rfl, rfl⟩ (R := fun o => ∃ hb : cv_H, o = (none, hb) ∧ cw_T G hb ∧ cw_Fr cw_Ds cw_sh kk_X5_readBrace.2.2.2.2.2.1 h315 hb ∧ zOK K h315 hb ∧ ri_at hb K 9 = (if zw t n (zx t n p) = 28 then 1 else 2)) (ct_braceD (t := t) (n := n) (p := (zx t n p)) (fun i => by rw [ht, ← hA _ Fh315]) (fun i hi => by rw [hB _ Fh315]; exact hwd i hi) hn9 Th315 hK7 Sh315 E1 (fun hb b1 b2 b3 b4 => ⟨hb, rfl, b1, b2, b3, b4⟩)) (fun o ho => ?_)
          obtain ⟨h317, rfl, Th317, Ch317, oh317, z9⟩ := ho
          show cw_X _ _ _ _ _ [] h317
          have Fh317 : cw_Fr cw_Ds cw_sh kk_X5_readPart.2.2.2.2.2.1 h0 h317 := cw_Fr_tr Fh315 (cw_Fr_mono (by decide +kernel) Ch317)
          have eh317_K_1 : ri_at h317 K 1 = hh := (ri_frf Ch317 (k := K) (d := 7) hK7 rfl (by decide +kernel)).trans eh315_K_1
          clear eh315_K_1
          have Wh317 := zOK_tr Wh315 oh317
          clear Wh315
          refine ex_go oq_X5_readPart_185 (t := 284) rfl rfl ?_
          exact ex_retv oq_X5_readPart_284 rfl (hQ h317 Th317 Fh317 Wh317 (.inr ⟨fun j hj => match j, hj with | 0, _ => (((ri_frf Ch317 (k := K) (d := 7) hK7 rfl (by decide +kernel)).trans ((ri_frf Ch315 (k := K) (d := 7) hK7 rfl (by decide +kernel)).trans (ri_ne wh314 (.inr (by decide)))))).trans ((hD.1 0 (by decide)).trans (by rw [zgU_ne (by decide)])) | 1, _ => (((ri_frf Ch317 (k := K) (d := 7) hK7 rfl (by decide +kernel)).trans ((ri_frf Ch315 (k := K) (d := 7) hK7 rfl (by decide +kernel)).trans (ri_ne wh314 (.inr (by decide)))))).trans ((hD.1 1 (by decide)).trans (by rw [zgU_ne (by decide)])) | 2, _ => (((ri_frf Ch317 (k := K) (d := 7) hK7 rfl (by decide +kernel)).trans ((ri_frf Ch315 (k := K) (d := 7) hK7 rfl (by decide +kernel)).trans (ri_ne wh314 (.inr (by decide)))))).trans ((hD.1 2 (by decide)).trans (by rw [zgU_ne (by decide)])) | 3, _ => (((ri_frf Ch317 (k := K) (d := 7) hK7 rfl (by decide +kernel)).trans ((ri_frf Ch315 (k := K) (d := 7) hK7 rfl (by decide +kernel)).trans (ri_ne wh314 (.inr (by decide)))))).trans ((hD.1 3 (by decide)).trans (by rw [zgU_ne (by decide)])) | 4, _ => (((ri_frf Ch317 (k := K) (d := 7) hK7 rfl (by decide +kernel)).trans ((ri_frf Ch315 (k := K) (d := 7) hK7 rfl (by decide +kernel)).trans (ri_ne wh314 (.inr (by decide)))))).trans ((hD.1 4 (by decide)).trans (by rw [zgU_ne (by decide)])) | 5, _ => (((ri_frf Ch317 (k := K) (d := 7) hK7 rfl (by decide +kernel)).trans ((ri_frf Ch315 (k := K) (d := 7) hK7 rfl (by decide +kernel)).trans (ri_ne wh314 (.inr (by decide)))))).trans ((hD.1 5 (by decide)).trans (by rw [zgU_ne (by decide)])) | 6, _ => (((ri_frf Ch317 (k := K) (d := 7) hK7 rfl (by decide +kernel)).trans ((ri_frf Ch315 (k := K) (d := 7) hK7 rfl (by decide +kernel)).trans (ri_ne wh314 (.inr (by decide)))))).trans ((hD.1 6 (by decide)).trans (by rw [zgU_ne (by decide)])) | 7, _ => (((ri_frf Ch317 (k := K) (d := 7) hK7 rfl (by decide +kernel)).trans ((ri_frf Ch315 (k := K) (d := 7) hK7 rfl (by decide +kernel)).trans (ri_ne wh314 (.inr (by decide)))))).trans ((hD.1 7 (by decide)).trans (by rw [zgU_ne (by decide)])) | 8, _ => (((ri_frf Ch317 (k := K) (d := 7) hK7 rfl (by decide +kernel)).trans ((ri_frf Ch315 (k := K) (d := 7) hK7 rfl (by decide +kernel)).trans (ri_ne wh314 (.inr (by decide)))))).trans ((hD.1 8 (by decide)).trans (by rw [zgU_ne (by decide)])) | 9, _ => (rfl).trans (z9.trans zgU_eq.symm) | 10, _ => (((ri_frf Ch317 (k := K) (d := 7) hK7 rfl (by decide +kernel)).trans ((ri_frf Ch315 (k := K) (d := 7) hK7 rfl (by decide +kernel)).trans (ri_ne wh314 (.inr (by decide)))))).trans ((hD.1 10 (by decide)).trans (by rw [zgU_ne (by decide)])) | 11, _ => (((ri_frf Ch317 (k := K) (d := 7) hK7 rfl (by decide +kernel)).trans ((ri_frf Ch315 (k := K) (d := 7) hK7 rfl (by decide +kernel)).trans (ri_ne wh314 (.inr (by decide)))))).trans ((hD.1 11 (by decide)).trans (by rw [zgU_ne (by decide)])) | 12, _ => (((ri_frf Ch317 (k := K) (d := 7) hK7 rfl (by decide +kernel)).trans ((ri_frf Ch315 (k := K) (d := 7) hK7 rfl (by decide +kernel)).trans (ri_ne wh314 (.inr (by decide)))))).trans ((hD.1 12 (by decide)).trans (by rw [zgU_ne (by decide)])) | 13, _ => (((ri_frf Ch317 (k := K) (d := 7) hK7 rfl (by decide +kernel)).trans ((ri_frf Ch315 (k := K) (d := 7) hK7 rfl (by decide +kernel)).trans (ri_ne wh314 (.inr (by decide)))))).trans ((hD.1 13 (by decide)).trans (by rw [zgU_ne (by decide)])) | j + 14, hj => absurd hj (by omega), fun j hj => (((ri_frr Ch317 (k := (K + 1)) (d := 44) hK44 rfl (by decide +kernel)).trans ((ri_frr Ch315 (k := (K + 1)) (d := 44) hK44 rfl (by decide +kernel)).trans (ri_ne wh314 (.inl (cw_kne (k := (K + 1)) (d := 44) (k' := K) (d' := 7) hK44 hK7 (by decide))))))).trans ((hD.2 j hj).trans (by rw [zgU_ne (by omega)]))⟩))
        | 3, _, c316 =>
          refine ⟨rfl, ?_⟩
          show cw_X _ _ _ 188 _ _ _
          exfalso; omega
        | 4, _, c316 =>
          refine ⟨rfl, ?_⟩
          show cw_X _ _ _ 215 _ _ _
          exfalso; omega
        | 5, _, c316 =>
          refine ⟨rfl, ?_⟩
          show cw_X _ _ _ 230 _ _ _
          exfalso; omega
        | 6, _, c316 =>
          refine ⟨rfl, ?_⟩
          show cw_X _ _ _ 245 _ _ _
          exfalso; omega
        | i + 7, hi, _ => exact absurd hi (by show ¬ i + 7 < 7; omega)
    · refine ex_al oq_X5_readPart_25 gL302_0 ?_
      refine ex_ic oq_X5_readPart_26 (m := 3) (by decide) (fun x318 hx318 => ?_)
      refine ex_cv oq_X5_readPart_27 (by decide) hT (k := 50) (d := 5) (as := [cv_i x318]) (stk := []) rfl rfl rfl rfl rfl rfl ⟨rfl, rfl⟩ (R := fun o => ∃ (x : Int32) (hb : cv_H), o = (some (cv_i x), hb) ∧ cw_T G hb ∧ cw_Fr cw_Ds cw_sh kk_X5_fail.2.2.2.2.2.1 h0 hb ∧ x.toInt = 0 ∧ zCs t n (.inl (3, za t n p)) hb) (ct_failP (t := t) (n := n) (p := p) hT hS x318 hx318 (by decide) (fun x hb b1 b2 b3 b4 => ⟨x, hb, rfl, b1, b2, b3, b4⟩)) (fun o ho => ?_)
      obtain ⟨x319, h320, rfl, Th320, Ch320, zh320, Sh320⟩ := ho
      show cw_X _ _ _ _ _ [cv_i x319] h320
      have Fh320 : cw_Fr cw_Ds cw_sh kk_X5_readPart.2.2.2.2.2.1 h0 h320 := cw_Fr_tr Fh0 (cw_Fr_mono (by decide +kernel) Ch320)
      have eh320_K_1 : ri_at h320 K 1 = hh := (ri_frf Ch320 (k := K) (d := 7) hK7 rfl (by decide +kernel)).trans hg1
      have Wh320 := zOK_fr Ch320 (by decide +kernel) hOK
      refine ex_pop oq_X5_readPart_30 rfl ?_
      exact ex_retv oq_X5_readPart_31 rfl (hQ h320 Th320 Fh320 Wh320 (.inl (by have := (Sh320).1; omega)))
set_option maxHeartbeats 16000000 in
theorem ct_partD3 {h0 : cv_H} {n p : Nat} (ht : ∀ i, t i = ri_at h0 1 i % 256) (hwd : ∀ i, i < 34 → ri_at h0 52 i = tz_wc.getD i 0) (hn9 : n ≤ 900) (hT : cw_T G h0) {b : Nat} (hb : b = 2 ∨ b = 26) (hpl : zPL b h0) {K : Nat} (hK7 : cw_sh[K]? = some 7) (hK44 : cw_sh[K + 1]? = some 44) (hKr : cw_at h0 K 16 = some (cv_r (K + 1))) (hS : zCs t n (.inr p) h0) (hZ : zk t n p = 1 ∧ zw t n p = 12) {D : Nat → Int} (hD : zKD h0 K D) {hh : Int} (hg1 : ri_at h0 K 1 = hh) (hh2 : 24 ≤ hh ∧ hh ≤ 72) {v1 v2 : Int} {q1 q2 : Nat}  (E1 : zn t n 0 9999 (zx t n p) = .inr (v1, q1)) (E2 : zn t n 0 9999 q1 = .inr (v2, q2)) (hQ : ∀ h', cw_T G h' → cw_Fr cw_Ds cw_sh kk_X5_readPart.2.2.2.2.2.1 h0 h' → zOK K h0 h' → (ri_at h' 50 4 ≠ 0 ∨ zKD h' K (zgU (zgU D 10 v1) 11 v2)) → Q (none, h')) : cw_X X 68 Q 0 (cv_ent 0 [cv_r 50, cv_r K]) [] h0 := by
  have Fh0 : cw_Fr cw_Ds cw_sh kk_X5_readPart.2.2.2.2.2.1 h0 h0 := cw_Fr_refl
  have hA : ∀ h, cw_Fr cw_Ds cw_sh kk_X5_readPart.2.2.2.2.2.1 h0 h → ∀ i, ri_at h 1 i = ri_at h0 1 i := fun h F i => ri_frr F (k := 1) (d := 13) rfl rfl (by decide +kernel)
  have hB : ∀ h, cw_Fr cw_Ds cw_sh kk_X5_readPart.2.2.2.2.2.1 h0 h → ∀ i, ri_at h 52 i = ri_at h0 52 i := fun h F i => ri_frr F (k := 52) (d := 43) rfl rfl (by decide +kernel)
  have hPL : ∀ h, cw_Fr cw_Ds cw_sh kk_X5_readPart.2.2.2.2.2.1 h0 h → zPL b h := fun h F => zPL_fr hb F (by decide +kernel) hpl
  have hb4 : cw_sh[b]? = some 4 := by rcases hb with rfl | rfl <;> rfl
  have hkb1 : cw_sh[b + 1]? = some 28 := by rcases hb with rfl | rfl <;> rfl
  have hkb2 : cw_sh[b + 2]? = some 29 := by rcases hb with rfl | rfl <;> rfl
  have hkb3 : cw_sh[b + 3]? = some 30 := by rcases hb with rfl | rfl <;> rfl
  have hkb4 : cw_sh[b + 4]? = some 31 := by rcases hb with rfl | rfl <;> rfl
  have hkb5 : cw_sh[b + 5]? = some 32 := by rcases hb with rfl | rfl <;> rfl
  have hkb6 : cw_sh[b + 6]? = some 33 := by rcases hb with rfl | rfl <;> rfl
  have hkb7 : cw_sh[b + 7]? = some 34 := by rcases hb with rfl | rfl <;> rfl
  have hkb8 : cw_sh[b + 8]? = some 35 := by rcases hb with rfl | rfl <;> rfl
  have hkb9 : cw_sh[b + 9]? = some 36 := by rcases hb with rfl | rfl <;> rfl
  have hkb10 : cw_sh[b + 10]? = some 37 := by rcases hb with rfl | rfl <;> rfl
  have hkb11 : cw_sh[b + 11]? = some 38 := by rcases hb with rfl | rfl <;> rfl
  have hkb12 : cw_sh[b + 12]? = some 39 := by rcases hb with rfl | rfl <;> rfl
  have hkb13 : cw_sh[b + 13]? = some 40 := by rcases hb with rfl | rfl <;> rfl
  have hkb14 : cw_sh[b + 14]? = some 41 := by rcases hb with rfl | rfl <;> rfl
  have hkb15 : cw_sh[b + 15]? = some 42 := by rcases hb with rfl | rfl <;> rfl
  have hKR : ∀ h, cw_Fr cw_Ds cw_sh kk_X5_readPart.2.2.2.2.2.1 h0 h → cw_at h K 16 = some (cv_r (K + 1)) := fun h F => (F.2 K 7 16 hK7 (by decide +kernel)).trans hKr
  have hOK : zOK K h0 h0 := zOK_0
  refine ex_al oq_X5_readPart_0 rfl ?_
  refine ex_gf oq_X5_readPart_1 hT (k := 50) (d := 5) rfl rfl (ri_ref (k := 50) (k' := 51) (d := 5) (f := 0) hT rfl rfl rfl (by decide) (ri_uniq (by decide +kernel))) ?_
  obtain ⟨pnh0, yah0, ybh0, ych0, ydh0, yfh0⟩ := zCs_at hS
  obtain ⟨kch0, ykh0⟩ : ∃ k, ri_at h0 51 4 = k := ⟨_, rfl⟩
  obtain ⟨vch0, yvh0⟩ : ∃ k, ri_at h0 51 6 = k := ⟨_, rfl⟩
  rw [ykh0, yvh0] at ydh0
  replace ydh0 := zhd_i ydh0
  have rlw := rl_pw (show tz_rel _ _ _ _ from ydh0)
  have zlh0 := zx_le (t := t) (n := n) (p := p) (by omega)
  obtain ⟨x301, ax301, rx301, lx301, ux301⟩ := ri_fld (k := 51) (d := 6) (f := 6) hT rfl rfl rfl
  try dsimp only at lx301 ux301
  refine ex_gf oq_X5_readPart_4 hT (k := 51) (d := 6) rfl rfl ax301 ?_
  clear lx301 ux301
  have rx301 := (rx301.symm.trans yvh0 : x301.toInt = vch0)
  refine ex_isA oq_X5_readPart_7 (fun L302 gL302_2 kL302 => ?_)
  have gL302_0 : cv_get L302 0 = some (cv_r 50) := kL302 0 _ (by decide) (fun q => absurd q (by decide)) rfl
  have gL302_1 : cv_get L302 1 = some (cv_r K) := kL302 1 _ (by decide) (fun _ => rfl) rfl
  refine ex_il oq_X5_readPart_8 gL302_2 ?_
  refine ex_bi oq_X5_readPart_9 (m := 16) (by decide) (fun x303 hx303 => ?_)
  refine ex_if oq_X5_readPart_11 (t := 32) rfl rfl (fun (c304 : x301.toInt = x303.toInt) => ?_) (fun (c304 : ¬ (x301.toInt = x303.toInt)) => ?_)
  · exfalso; omega
  · refine ex_al oq_X5_readPart_14 gL302_1 ?_
    obtain ⟨x305, ax305, rx305, lx305, ux305⟩ := ri_fld (k := K) (d := 7) (f := 15) hT hK7 rfl rfl
    try dsimp only at lx305 ux305
    refine ex_gf oq_X5_readPart_15 hT (k := K) (d := 7) hK7 rfl ax305 ?_
    clear lx305 ux305
    refine ex_ic oq_X5_readPart_18 (m := 1) (by decide) (fun x306 hx306 => ?_)
    refine ex_il oq_X5_readPart_19 gL302_2 ?_
    refine ex_any (f := fun x y => some x) oq_X5_readPart_20 rfl (fun x307 => ?_)
    refine ex_any (f := fun x y => some x) oq_X5_readPart_21 rfl (fun x308 => ?_)
    refine ex_if0 oq_X5_readPart_22 (t := 32) rfl rfl (fun (c309 : x308.toInt = 0) => ?_) (fun (c309 : ¬ (x308.toInt = 0)) => ?_)
    · refine ex_al oq_X5_readPart_32 gL302_1 ?_
      refine ex_dup oq_X5_readPart_33 rfl ?_
      obtain ⟨x310, ax310, rx310, lx310, ux310⟩ := ri_fld (k := K) (d := 7) (f := 15) hT hK7 rfl rfl
      try dsimp only at lx310 ux310
      refine ex_gf oq_X5_readPart_34 hT (k := K) (d := 7) hK7 rfl ax310 ?_
      clear lx310 ux310
      refine ex_ic oq_X5_readPart_37 (m := 1) (by decide) (fun x311 hx311 => ?_)
      refine ex_il oq_X5_readPart_38 gL302_2 ?_
      refine ex_any (f := fun x y => some x) oq_X5_readPart_39 rfl (fun x312 => ?_)
      refine ex_any (f := fun x y => some x) oq_X5_readPart_40 rfl (fun x313 => ?_)
      refine ex_pfi oq_X5_readPart_41 hT (k := K) (d := 7) hK7 rfl rfl (cw_i32 _).1 (cw_i32 _).2 (fun h314 Th314 wh314 => ?_)
      have Fh314 : cw_Fr cw_Ds cw_sh kk_X5_readPart.2.2.2.2.2.1 h0 h314 := cw_Fr_tr Fh0 (cw_Fr_wrf wh314 (k := K) (d := 7) hK7 rfl (by decide +kernel))
      have eh314_K_1 : ri_at h314 K 1 = hh := (ri_ne wh314 (.inr (by decide))).trans hg1
      have Sh314 := zCs_wr (d := 7) (k := K) wh314 hK7 hS (.inl ⟨by decide, by decide⟩)
      have Wh314 := zOK_K wh314 hK7 hOK
      refine ex_al oq_X5_readPart_44 gL302_0 ?_
      refine ex_gf oq_X5_readPart_45 Th314 (k := 50) (d := 5) rfl rfl (ri_ref (k := 50) (k' := 51) (d := 5) (f := 0) Th314 rfl rfl rfl (by decide) (ri_uniq (by decide +kernel))) ?_
      refine ex_cv oq_X5_readPart_48 (by decide) Th314 (k := 51) (d := 6) (as := []) (stk := []) rfl rfl rfl rfl rfl rfl ⟨rfl, rfl⟩ (R := fun o => ∃ hb : cv_H, o = (none, hb) ∧ cw_T G hb ∧ cw_Fr cw_Ds cw_sh kk_X6_step.2.2.2.2.2.1 h314 hb ∧ zCs t n (.inr (zx t n p)) hb) (ct_stepC (t := t) (n := n) (p := p) (fun i => by rw [ht, ← hA _ Fh314]) (fun i hi => by rw [hB _ Fh314]; exact hwd i hi) hn9 Th314 Sh314 (fun hb b1 b2 b3 => ⟨hb, rfl, b1, b2, b3⟩)) (fun o ho => ?_)
      obtain ⟨h315, rfl, Th315, Ch315, Sh315⟩ := ho
      show cw_X _ _ _ _ _ [] h315
      have Fh315 : cw_Fr cw_Ds cw_sh kk_X5_readPart.2.2.2.2.2.1 h0 h315 := cw_Fr_tr Fh314 (cw_Fr_mono (by decide +kernel) Ch315)
      have eh315_K_1 : ri_at h315 K 1 = hh := (ri_frf Ch315 (k := K) (d := 7) hK7 rfl (by decide +kernel)).trans eh314_K_1
      clear eh314_K_1
      have Wh315 := zOK_fr Ch315 (by decide +kernel) Wh314
      clear Wh314
      clear yah0 ybh0 ych0 ykh0 yvh0 yfh0
      obtain ⟨pnh315, yah315, ybh315, ych315, ydh315, yfh315⟩ := zCs_at Sh315
      obtain ⟨kch315, ykh315⟩ : ∃ k, ri_at h315 51 4 = k := ⟨_, rfl⟩
      obtain ⟨vch315, yvh315⟩ : ∃ k, ri_at h315 51 6 = k := ⟨_, rfl⟩
      rw [ykh315, yvh315] at ydh315
      replace ydh315 := zhd_i ydh315
      have zlh315 := zx_le (t := t) (n := n) (p := (zx t n p)) (by omega)
      refine ex_il oq_X5_readPart_51 gL302_2 ?_
      refine ex_tsw oq_X5_readPart_52 rfl (fun c316 => ⟨rfl, ?_⟩) (fun i hi c316 => ?_)
      · show cw_X _ _ _ 279 _ _ _
        exfalso; omega
      · match i, hi, c316 with
        | 0, _, c316 =>
          refine ⟨rfl, ?_⟩
          show cw_X _ _ _ 96 _ _ _
          exfalso; omega
        | 1, _, c316 =>
          refine ⟨rfl, ?_⟩
          show cw_X _ _ _ 154 _ _ _
          exfalso; omega
        | 2, _, c316 =>
          refine ⟨rfl, ?_⟩
          show cw_X _ _ _ 180 _ _ _
          exfalso; omega
        | 3, _, c316 =>
          refine ⟨rfl, ?_⟩
          show cw_X _ _ _ 188 _ _ _
          refine ex_al oq_X5_readPart_188 gL302_1 ?_
          refine ex_al oq_X5_readPart_189 gL302_0 ?_
          refine ex_ic oq_X5_readPart_190 (m := 0) (by decide) (fun x317 hx317 => ?_)
          refine ex_si oq_X5_readPart_191 (m := 9999) (by decide) (fun x318 hx318 => ?_)
          refine ex_cv oq_X5_readPart_194 (by decide) Th315 (k := 50) (d := 5) (as := [cv_i x317, cv_i x318]) (stk := [cv_r K]) rfl rfl rfl rfl rfl rfl ⟨rfl, rfl⟩ (R := fun o => ∃ (x : Int32) (hb : cv_H), o = (some (cv_i x), hb) ∧ cw_T G hb ∧ cw_Fr cw_Ds cw_sh kk_X5_readNumber_1.2.2.2.2.2.1 h315 hb ∧ zCr t n hb x (zn t n x317.toInt x318.toInt (zx t n p))) (ct_readNumber (t := t) (n := n) (fun i => by rw [ht, ← hA _ Fh315]) (fun i hi => by rw [hB _ Fh315]; exact hwd i hi) hn9 Th315 Sh315 x317 x318 (by omega) (by omega) (fun x hb b1 b2 b3 => ⟨x, hb, rfl, b1, b2, b3⟩)) (fun o ho => ?_)
          obtain ⟨x319, h320, rfl, Th320, Ch320, dx319⟩ := ho
          show cw_X _ _ _ _ _ [cv_i x319, cv_r K] h320
          rw [hx317, hx318] at dx319
          rw [E1] at dx319
          obtain ⟨wx319, Sh320⟩ := zCr_r dx319
          clear dx319
          have Fh320 : cw_Fr cw_Ds cw_sh kk_X5_readPart.2.2.2.2.2.1 h0 h320 := cw_Fr_tr Fh315 (cw_Fr_mono (by decide +kernel) Ch320)
          have eh320_K_1 : ri_at h320 K 1 = hh := (ri_frf Ch320 (k := K) (d := 7) hK7 rfl (by decide +kernel)).trans eh315_K_1
          clear eh315_K_1
          have Wh320 := zOK_fr Ch320 (by decide +kernel) Wh315
          clear Wh315
          clear yah315 ybh315 ych315 ykh315 yvh315 yfh315
          obtain ⟨pnh320, yah320, ybh320, ych320, ydh320, yfh320⟩ := zCs_at Sh320
          obtain ⟨kch320, ykh320⟩ : ∃ k, ri_at h320 51 4 = k := ⟨_, rfl⟩
          obtain ⟨vch320, yvh320⟩ : ∃ k, ri_at h320 51 6 = k := ⟨_, rfl⟩
          rw [ykh320, yvh320] at ydh320
          replace ydh320 := zhd_i ydh320
          have zlh320 := zx_le (t := t) (n := n) (p := q1) (by omega)
          refine ex_pfi oq_X5_readPart_197 Th320 (k := K) (d := 7) hK7 rfl rfl (cw_i32 _).1 (cw_i32 _).2 (fun h321 Th321 wh321 => ?_)
          have Fh321 : cw_Fr cw_Ds cw_sh kk_X5_readPart.2.2.2.2.2.1 h0 h321 := cw_Fr_tr Fh320 (cw_Fr_wrf wh321 (k := K) (d := 7) hK7 rfl (by decide +kernel))
          have eh321_K_1 : ri_at h321 K 1 = hh := (ri_ne wh321 (.inr (by decide))).trans eh320_K_1
          clear eh320_K_1
          have Sh321 := zCs_wr (d := 7) (k := K) wh321 hK7 Sh320 (.inl ⟨by decide, by decide⟩)
          have Wh321 := zOK_K wh321 hK7 Wh320
          clear Wh320
          refine ex_al oq_X5_readPart_200 gL302_1 ?_
          refine ex_al oq_X5_readPart_201 gL302_0 ?_
          refine ex_ic oq_X5_readPart_202 (m := 0) (by decide) (fun x322 hx322 => ?_)
          refine ex_si oq_X5_readPart_203 (m := 9999) (by decide) (fun x323 hx323 => ?_)
          refine ex_cv oq_X5_readPart_206 (by decide) Th321 (k := 50) (d := 5) (as := [cv_i x322, cv_i x323]) (stk := [cv_r K]) rfl rfl rfl rfl rfl rfl ⟨rfl, rfl⟩ (R := fun o => ∃ (x : Int32) (hb : cv_H), o = (some (cv_i x), hb) ∧ cw_T G hb ∧ cw_Fr cw_Ds cw_sh kk_X5_readNumber_1.2.2.2.2.2.1 h321 hb ∧ zCr t n hb x (zn t n x322.toInt x323.toInt q1)) (ct_readNumber (t := t) (n := n) (fun i => by rw [ht, ← hA _ Fh321]) (fun i hi => by rw [hB _ Fh321]; exact hwd i hi) hn9 Th321 Sh321 x322 x323 (by omega) (by omega) (fun x hb b1 b2 b3 => ⟨x, hb, rfl, b1, b2, b3⟩)) (fun o ho => ?_)
          obtain ⟨x324, h325, rfl, Th325, Ch325, dx324⟩ := ho
          show cw_X _ _ _ _ _ [cv_i x324, cv_r K] h325
          rw [hx322, hx323] at dx324
          rw [E2] at dx324
          obtain ⟨wx324, Sh325⟩ := zCr_r dx324
          clear dx324
          have Fh325 : cw_Fr cw_Ds cw_sh kk_X5_readPart.2.2.2.2.2.1 h0 h325 := cw_Fr_tr Fh321 (cw_Fr_mono (by decide +kernel) Ch325)
          have eh325_K_1 : ri_at h325 K 1 = hh := (ri_frf Ch325 (k := K) (d := 7) hK7 rfl (by decide +kernel)).trans eh321_K_1
          clear eh321_K_1
          have Wh325 := zOK_fr Ch325 (by decide +kernel) Wh321
          clear Wh321
          clear yah320 ybh320 ych320 ykh320 yvh320 yfh320
          obtain ⟨pnh325, yah325, ybh325, ych325, ydh325, yfh325⟩ := zCs_at Sh325
          obtain ⟨kch325, ykh325⟩ : ∃ k, ri_at h325 51 4 = k := ⟨_, rfl⟩
          obtain ⟨vch325, yvh325⟩ : ∃ k, ri_at h325 51 6 = k := ⟨_, rfl⟩
          rw [ykh325, yvh325] at ydh325
          replace ydh325 := zhd_i ydh325
          have zlh325 := zx_le (t := t) (n := n) (p := q2) (by omega)
          refine ex_pfi oq_X5_readPart_209 Th325 (k := K) (d := 7) hK7 rfl rfl (cw_i32 _).1 (cw_i32 _).2 (fun h326 Th326 wh326 => ?_)
          have Fh326 : cw_Fr cw_Ds cw_sh kk_X5_readPart.2.2.2.2.2.1 h0 h326 := cw_Fr_tr Fh325 (cw_Fr_wrf wh326 (k := K) (d := 7) hK7 rfl (by decide +kernel))
          have eh326_K_1 : ri_at h326 K 1 = hh := (ri_ne wh326 (.inr (by decide))).trans eh325_K_1
          clear eh325_K_1
          have Sh326 := zCs_wr (d := 7) (k := K) wh326 hK7 Sh325 (.inl ⟨by decide, by decide⟩)
          have Wh326 := zOK_K wh326 hK7 Wh325
          clear Wh325
          refine ex_go oq_X5_readPart_212 (t := 284) rfl rfl ?_
          exact ex_retv oq_X5_readPart_284 rfl (hQ h326 Th326 Fh326 Wh326 (.inr ⟨fun j hj => match j, hj with | 0, _ => (((ri_ne wh326 (.inr (by decide))).trans ((ri_frf Ch325 (k := K) (d := 7) hK7 rfl (by decide +kernel)).trans ((ri_ne wh321 (.inr (by decide))).trans ((ri_frf Ch320 (k := K) (d := 7) hK7 rfl (by decide +kernel)).trans ((ri_frf Ch315 (k := K) (d := 7) hK7 rfl (by decide +kernel)).trans (ri_ne wh314 (.inr (by decide))))))))).trans ((hD.1 0 (by decide)).trans (by rw [zgU_ne (by decide), zgU_ne (by decide)])) | 1, _ => (((ri_ne wh326 (.inr (by decide))).trans ((ri_frf Ch325 (k := K) (d := 7) hK7 rfl (by decide +kernel)).trans ((ri_ne wh321 (.inr (by decide))).trans ((ri_frf Ch320 (k := K) (d := 7) hK7 rfl (by decide +kernel)).trans ((ri_frf Ch315 (k := K) (d := 7) hK7 rfl (by decide +kernel)).trans (ri_ne wh314 (.inr (by decide))))))))).trans ((hD.1 1 (by decide)).trans (by rw [zgU_ne (by decide), zgU_ne (by decide)])) | 2, _ => (((ri_ne wh326 (.inr (by decide))).trans ((ri_frf Ch325 (k := K) (d := 7) hK7 rfl (by decide +kernel)).trans ((ri_ne wh321 (.inr (by decide))).trans ((ri_frf Ch320 (k := K) (d := 7) hK7 rfl (by decide +kernel)).trans ((ri_frf Ch315 (k := K) (d := 7) hK7 rfl (by decide +kernel)).trans (ri_ne wh314 (.inr (by decide))))))))).trans ((hD.1 2 (by decide)).trans (by rw [zgU_ne (by decide), zgU_ne (by decide)])) | 3, _ => (((ri_ne wh326 (.inr (by decide))).trans ((ri_frf Ch325 (k := K) (d := 7) hK7 rfl (by decide +kernel)).trans ((ri_ne wh321 (.inr (by decide))).trans ((ri_frf Ch320 (k := K) (d := 7) hK7 rfl (by decide +kernel)).trans ((ri_frf Ch315 (k := K) (d := 7) hK7 rfl (by decide +kernel)).trans (ri_ne wh314 (.inr (by decide))))))))).trans ((hD.1 3 (by decide)).trans (by rw [zgU_ne (by decide), zgU_ne (by decide)])) | 4, _ => (((ri_ne wh326 (.inr (by decide))).trans ((ri_frf Ch325 (k := K) (d := 7) hK7 rfl (by decide +kernel)).trans ((ri_ne wh321 (.inr (by decide))).trans ((ri_frf Ch320 (k := K) (d := 7) hK7 rfl (by decide +kernel)).trans ((ri_frf Ch315 (k := K) (d := 7) hK7 rfl (by decide +kernel)).trans (ri_ne wh314 (.inr (by decide))))))))).trans ((hD.1 4 (by decide)).trans (by rw [zgU_ne (by decide), zgU_ne (by decide)])) | 5, _ => (((ri_ne wh326 (.inr (by decide))).trans ((ri_frf Ch325 (k := K) (d := 7) hK7 rfl (by decide +kernel)).trans ((ri_ne wh321 (.inr (by decide))).trans ((ri_frf Ch320 (k := K) (d := 7) hK7 rfl (by decide +kernel)).trans ((ri_frf Ch315 (k := K) (d := 7) hK7 rfl (by decide +kernel)).trans (ri_ne wh314 (.inr (by decide))))))))).trans ((hD.1 5 (by decide)).trans (by rw [zgU_ne (by decide), zgU_ne (by decide)])) | 6, _ => (((ri_ne wh326 (.inr (by decide))).trans ((ri_frf Ch325 (k := K) (d := 7) hK7 rfl (by decide +kernel)).trans ((ri_ne wh321 (.inr (by decide))).trans ((ri_frf Ch320 (k := K) (d := 7) hK7 rfl (by decide +kernel)).trans ((ri_frf Ch315 (k := K) (d := 7) hK7 rfl (by decide +kernel)).trans (ri_ne wh314 (.inr (by decide))))))))).trans ((hD.1 6 (by decide)).trans (by rw [zgU_ne (by decide), zgU_ne (by decide)])) | 7, _ => (((ri_ne wh326 (.inr (by decide))).trans ((ri_frf Ch325 (k := K) (d := 7) hK7 rfl (by decide +kernel)).trans ((ri_ne wh321 (.inr (by decide))).trans ((ri_frf Ch320 (k := K) (d := 7) hK7 rfl (by decide +kernel)).trans ((ri_frf Ch315 (k := K) (d := 7) hK7 rfl (by decide +kernel)).trans (ri_ne wh314 (.inr (by decide))))))))).trans ((hD.1 7 (by decide)).trans (by rw [zgU_ne (by decide), zgU_ne (by decide)])) | 8, _ => (((ri_ne wh326 (.inr (by decide))).trans ((ri_frf Ch325 (k := K) (d := 7) hK7 rfl (by decide +kernel)).trans ((ri_ne wh321 (.inr (by decide))).trans ((ri_frf Ch320 (k := K) (d := 7) hK7 rfl (by decide +kernel)).trans ((ri_frf Ch315 (k := K) (d := 7) hK7 rfl (by decide +kernel)).trans (ri_ne wh314 (.inr (by decide))))))))).trans ((hD.1 8 (by decide)).trans (by rw [zgU_ne (by decide), zgU_ne (by decide)])) | 9, _ => (((ri_ne wh326 (.inr (by decide))).trans ((ri_frf Ch325 (k := K) (d := 7) hK7 rfl (by decide +kernel)).trans ((ri_ne wh321 (.inr (by decide))).trans ((ri_frf Ch320 (k := K) (d := 7) hK7 rfl (by decide +kernel)).trans ((ri_frf Ch315 (k := K) (d := 7) hK7 rfl (by decide +kernel)).trans (ri_ne wh314 (.inr (by decide))))))))).trans ((hD.1 9 (by decide)).trans (by rw [zgU_ne (by decide), zgU_ne (by decide)])) | 10, _ => (((((ri_ne wh326 (.inr (by decide))).trans (ri_frf Ch325 (k := K) (d := 7) hK7 rfl (by decide +kernel)))).trans (ri_self wh321))).trans ((show x319.toInt = v1 from by omega).trans (by rw [zgU_ne (by decide), zgU_eq])) | 11, _ => (((rfl).trans (ri_self wh326))).trans ((show x324.toInt = v2 from by omega).trans (by rw [zgU_eq])) | 12, _ => (((ri_ne wh326 (.inr (by decide))).trans ((ri_frf Ch325 (k := K) (d := 7) hK7 rfl (by decide +kernel)).trans ((ri_ne wh321 (.inr (by decide))).trans ((ri_frf Ch320 (k := K) (d := 7) hK7 rfl (by decide +kernel)).trans ((ri_frf Ch315 (k := K) (d := 7) hK7 rfl (by decide +kernel)).trans (ri_ne wh314 (.inr (by decide))))))))).trans ((hD.1 12 (by decide)).trans (by rw [zgU_ne (by decide), zgU_ne (by decide)])) | 13, _ => (((ri_ne wh326 (.inr (by decide))).trans ((ri_frf Ch325 (k := K) (d := 7) hK7 rfl (by decide +kernel)).trans ((ri_ne wh321 (.inr (by decide))).trans ((ri_frf Ch320 (k := K) (d := 7) hK7 rfl (by decide +kernel)).trans ((ri_frf Ch315 (k := K) (d := 7) hK7 rfl (by decide +kernel)).trans (ri_ne wh314 (.inr (by decide))))))))).trans ((hD.1 13 (by decide)).trans (by rw [zgU_ne (by decide), zgU_ne (by decide)])) | j + 14, hj => absurd hj (by omega), fun j hj => (((ri_ne wh326 (.inl (cw_kne (k := (K + 1)) (d := 44) (k' := K) (d' := 7) hK44 hK7 (by decide)))).trans ((ri_frr Ch325 (k := (K + 1)) (d := 44) hK44 rfl (by decide +kernel)).trans ((ri_ne wh321 (.inl (cw_kne (k := (K + 1)) (d := 44) (k' := K) (d' := 7) hK44 hK7 (by decide)))).trans ((ri_frr Ch320 (k := (K + 1)) (d := 44) hK44 rfl (by decide +kernel)).trans ((ri_frr Ch315 (k := (K + 1)) (d := 44) hK44 rfl (by decide +kernel)).trans (ri_ne wh314 (.inl (cw_kne (k := (K + 1)) (d := 44) (k' := K) (d' := 7) hK44 hK7 (by decide)))))))))).trans ((hD.2 j hj).trans (by rw [zgU_ne (by omega), zgU_ne (by omega)]))⟩))
        | 4, _, c316 =>
          refine ⟨rfl, ?_⟩
          show cw_X _ _ _ 215 _ _ _
          exfalso; omega
        | 5, _, c316 =>
          refine ⟨rfl, ?_⟩
          show cw_X _ _ _ 230 _ _ _
          exfalso; omega
        | 6, _, c316 =>
          refine ⟨rfl, ?_⟩
          show cw_X _ _ _ 245 _ _ _
          exfalso; omega
        | i + 7, hi, _ => exact absurd hi (by show ¬ i + 7 < 7; omega)
    · refine ex_al oq_X5_readPart_25 gL302_0 ?_
      refine ex_ic oq_X5_readPart_26 (m := 3) (by decide) (fun x327 hx327 => ?_)
      refine ex_cv oq_X5_readPart_27 (by decide) hT (k := 50) (d := 5) (as := [cv_i x327]) (stk := []) rfl rfl rfl rfl rfl rfl ⟨rfl, rfl⟩ (R := fun o => ∃ (x : Int32) (hb : cv_H), o = (some (cv_i x), hb) ∧ cw_T G hb ∧ cw_Fr cw_Ds cw_sh kk_X5_fail.2.2.2.2.2.1 h0 hb ∧ x.toInt = 0 ∧ zCs t n (.inl (3, za t n p)) hb) (ct_failP (t := t) (n := n) (p := p) hT hS x327 hx327 (by decide) (fun x hb b1 b2 b3 b4 => ⟨x, hb, rfl, b1, b2, b3, b4⟩)) (fun o ho => ?_)
      obtain ⟨x328, h329, rfl, Th329, Ch329, zh329, Sh329⟩ := ho
      show cw_X _ _ _ _ _ [cv_i x328] h329
      have Fh329 : cw_Fr cw_Ds cw_sh kk_X5_readPart.2.2.2.2.2.1 h0 h329 := cw_Fr_tr Fh0 (cw_Fr_mono (by decide +kernel) Ch329)
      have eh329_K_1 : ri_at h329 K 1 = hh := (ri_frf Ch329 (k := K) (d := 7) hK7 rfl (by decide +kernel)).trans hg1
      have Wh329 := zOK_fr Ch329 (by decide +kernel) hOK
      refine ex_pop oq_X5_readPart_30 rfl ?_
      exact ex_retv oq_X5_readPart_31 rfl (hQ h329 Th329 Fh329 Wh329 (.inl (by have := (Sh329).1; omega)))
set_option maxHeartbeats 16000000 in
theorem ct_partD4 {h0 : cv_H} {n p : Nat} (ht : ∀ i, t i = ri_at h0 1 i % 256) (hwd : ∀ i, i < 34 → ri_at h0 52 i = tz_wc.getD i 0) (hn9 : n ≤ 900) (hT : cw_T G h0) {b : Nat} (hb : b = 2 ∨ b = 26) (hpl : zPL b h0) {K : Nat} (hK7 : cw_sh[K]? = some 7) (hK44 : cw_sh[K + 1]? = some 44) (hKr : cw_at h0 K 16 = some (cv_r (K + 1))) (hS : zCs t n (.inr p) h0) (hZ : zk t n p = 1 ∧ zw t n p = 13) {D : Nat → Int} (hD : zKD h0 K D) {hh : Int} (hg1 : ri_at h0 K 1 = hh) (hh2 : 24 ≤ hh ∧ hh ≤ 72) {v1 : Int} {q1 : Nat}  (E1 : zn t n 0 9999 (zx t n p) = .inr (v1, q1)) (hQ : ∀ h', cw_T G h' → cw_Fr cw_Ds cw_sh kk_X5_readPart.2.2.2.2.2.1 h0 h' → zOK K h0 h' → (ri_at h' 50 4 ≠ 0 ∨ zKD h' K (zgU D 13 v1)) → Q (none, h')) : cw_X X 68 Q 0 (cv_ent 0 [cv_r 50, cv_r K]) [] h0 := by
  have Fh0 : cw_Fr cw_Ds cw_sh kk_X5_readPart.2.2.2.2.2.1 h0 h0 := cw_Fr_refl
  have hA : ∀ h, cw_Fr cw_Ds cw_sh kk_X5_readPart.2.2.2.2.2.1 h0 h → ∀ i, ri_at h 1 i = ri_at h0 1 i := fun h F i => ri_frr F (k := 1) (d := 13) rfl rfl (by decide +kernel)
  have hB : ∀ h, cw_Fr cw_Ds cw_sh kk_X5_readPart.2.2.2.2.2.1 h0 h → ∀ i, ri_at h 52 i = ri_at h0 52 i := fun h F i => ri_frr F (k := 52) (d := 43) rfl rfl (by decide +kernel)
  have hPL : ∀ h, cw_Fr cw_Ds cw_sh kk_X5_readPart.2.2.2.2.2.1 h0 h → zPL b h := fun h F => zPL_fr hb F (by decide +kernel) hpl
  have hb4 : cw_sh[b]? = some 4 := by rcases hb with rfl | rfl <;> rfl
  have hkb1 : cw_sh[b + 1]? = some 28 := by rcases hb with rfl | rfl <;> rfl
  have hkb2 : cw_sh[b + 2]? = some 29 := by rcases hb with rfl | rfl <;> rfl
  have hkb3 : cw_sh[b + 3]? = some 30 := by rcases hb with rfl | rfl <;> rfl
  have hkb4 : cw_sh[b + 4]? = some 31 := by rcases hb with rfl | rfl <;> rfl
  have hkb5 : cw_sh[b + 5]? = some 32 := by rcases hb with rfl | rfl <;> rfl
  have hkb6 : cw_sh[b + 6]? = some 33 := by rcases hb with rfl | rfl <;> rfl
  have hkb7 : cw_sh[b + 7]? = some 34 := by rcases hb with rfl | rfl <;> rfl
  have hkb8 : cw_sh[b + 8]? = some 35 := by rcases hb with rfl | rfl <;> rfl
  have hkb9 : cw_sh[b + 9]? = some 36 := by rcases hb with rfl | rfl <;> rfl
  have hkb10 : cw_sh[b + 10]? = some 37 := by rcases hb with rfl | rfl <;> rfl
  have hkb11 : cw_sh[b + 11]? = some 38 := by rcases hb with rfl | rfl <;> rfl
  have hkb12 : cw_sh[b + 12]? = some 39 := by rcases hb with rfl | rfl <;> rfl
  have hkb13 : cw_sh[b + 13]? = some 40 := by rcases hb with rfl | rfl <;> rfl
  have hkb14 : cw_sh[b + 14]? = some 41 := by rcases hb with rfl | rfl <;> rfl
  have hkb15 : cw_sh[b + 15]? = some 42 := by rcases hb with rfl | rfl <;> rfl
  have hKR : ∀ h, cw_Fr cw_Ds cw_sh kk_X5_readPart.2.2.2.2.2.1 h0 h → cw_at h K 16 = some (cv_r (K + 1)) := fun h F => (F.2 K 7 16 hK7 (by decide +kernel)).trans hKr
  have hOK : zOK K h0 h0 := zOK_0
  refine ex_al oq_X5_readPart_0 rfl ?_
  refine ex_gf oq_X5_readPart_1 hT (k := 50) (d := 5) rfl rfl (ri_ref (k := 50) (k' := 51) (d := 5) (f := 0) hT rfl rfl rfl (by decide) (ri_uniq (by decide +kernel))) ?_
  obtain ⟨pnh0, yah0, ybh0, ych0, ydh0, yfh0⟩ := zCs_at hS
  obtain ⟨kch0, ykh0⟩ : ∃ k, ri_at h0 51 4 = k := ⟨_, rfl⟩
  obtain ⟨vch0, yvh0⟩ : ∃ k, ri_at h0 51 6 = k := ⟨_, rfl⟩
  rw [ykh0, yvh0] at ydh0
  replace ydh0 := zhd_i ydh0
  have rlw := rl_pw (show tz_rel _ _ _ _ from ydh0)
  have zlh0 := zx_le (t := t) (n := n) (p := p) (by omega)
  obtain ⟨x301, ax301, rx301, lx301, ux301⟩ := ri_fld (k := 51) (d := 6) (f := 6) hT rfl rfl rfl
  try dsimp only at lx301 ux301
  refine ex_gf oq_X5_readPart_4 hT (k := 51) (d := 6) rfl rfl ax301 ?_
  clear lx301 ux301
  have rx301 := (rx301.symm.trans yvh0 : x301.toInt = vch0)
  refine ex_isA oq_X5_readPart_7 (fun L302 gL302_2 kL302 => ?_)
  have gL302_0 : cv_get L302 0 = some (cv_r 50) := kL302 0 _ (by decide) (fun q => absurd q (by decide)) rfl
  have gL302_1 : cv_get L302 1 = some (cv_r K) := kL302 1 _ (by decide) (fun _ => rfl) rfl
  refine ex_il oq_X5_readPart_8 gL302_2 ?_
  refine ex_bi oq_X5_readPart_9 (m := 16) (by decide) (fun x303 hx303 => ?_)
  refine ex_if oq_X5_readPart_11 (t := 32) rfl rfl (fun (c304 : x301.toInt = x303.toInt) => ?_) (fun (c304 : ¬ (x301.toInt = x303.toInt)) => ?_)
  · exfalso; omega
  · refine ex_al oq_X5_readPart_14 gL302_1 ?_
    obtain ⟨x305, ax305, rx305, lx305, ux305⟩ := ri_fld (k := K) (d := 7) (f := 15) hT hK7 rfl rfl
    try dsimp only at lx305 ux305
    refine ex_gf oq_X5_readPart_15 hT (k := K) (d := 7) hK7 rfl ax305 ?_
    clear lx305 ux305
    refine ex_ic oq_X5_readPart_18 (m := 1) (by decide) (fun x306 hx306 => ?_)
    refine ex_il oq_X5_readPart_19 gL302_2 ?_
    refine ex_any (f := fun x y => some x) oq_X5_readPart_20 rfl (fun x307 => ?_)
    refine ex_any (f := fun x y => some x) oq_X5_readPart_21 rfl (fun x308 => ?_)
    refine ex_if0 oq_X5_readPart_22 (t := 32) rfl rfl (fun (c309 : x308.toInt = 0) => ?_) (fun (c309 : ¬ (x308.toInt = 0)) => ?_)
    · refine ex_al oq_X5_readPart_32 gL302_1 ?_
      refine ex_dup oq_X5_readPart_33 rfl ?_
      obtain ⟨x310, ax310, rx310, lx310, ux310⟩ := ri_fld (k := K) (d := 7) (f := 15) hT hK7 rfl rfl
      try dsimp only at lx310 ux310
      refine ex_gf oq_X5_readPart_34 hT (k := K) (d := 7) hK7 rfl ax310 ?_
      clear lx310 ux310
      refine ex_ic oq_X5_readPart_37 (m := 1) (by decide) (fun x311 hx311 => ?_)
      refine ex_il oq_X5_readPart_38 gL302_2 ?_
      refine ex_any (f := fun x y => some x) oq_X5_readPart_39 rfl (fun x312 => ?_)
      refine ex_any (f := fun x y => some x) oq_X5_readPart_40 rfl (fun x313 => ?_)
      refine ex_pfi oq_X5_readPart_41 hT (k := K) (d := 7) hK7 rfl rfl (cw_i32 _).1 (cw_i32 _).2 (fun h314 Th314 wh314 => ?_)
      have Fh314 : cw_Fr cw_Ds cw_sh kk_X5_readPart.2.2.2.2.2.1 h0 h314 := cw_Fr_tr Fh0 (cw_Fr_wrf wh314 (k := K) (d := 7) hK7 rfl (by decide +kernel))
      have eh314_K_1 : ri_at h314 K 1 = hh := (ri_ne wh314 (.inr (by decide))).trans hg1
      have Sh314 := zCs_wr (d := 7) (k := K) wh314 hK7 hS (.inl ⟨by decide, by decide⟩)
      have Wh314 := zOK_K wh314 hK7 hOK
      refine ex_al oq_X5_readPart_44 gL302_0 ?_
      refine ex_gf oq_X5_readPart_45 Th314 (k := 50) (d := 5) rfl rfl (ri_ref (k := 50) (k' := 51) (d := 5) (f := 0) Th314 rfl rfl rfl (by decide) (ri_uniq (by decide +kernel))) ?_
      refine ex_cv oq_X5_readPart_48 (by decide) Th314 (k := 51) (d := 6) (as := []) (stk := []) rfl rfl rfl rfl rfl rfl ⟨rfl, rfl⟩ (R := fun o => ∃ hb : cv_H, o = (none, hb) ∧ cw_T G hb ∧ cw_Fr cw_Ds cw_sh kk_X6_step.2.2.2.2.2.1 h314 hb ∧ zCs t n (.inr (zx t n p)) hb) (ct_stepC (t := t) (n := n) (p := p) (fun i => by rw [ht, ← hA _ Fh314]) (fun i hi => by rw [hB _ Fh314]; exact hwd i hi) hn9 Th314 Sh314 (fun hb b1 b2 b3 => ⟨hb, rfl, b1, b2, b3⟩)) (fun o ho => ?_)
      obtain ⟨h315, rfl, Th315, Ch315, Sh315⟩ := ho
      show cw_X _ _ _ _ _ [] h315
      have Fh315 : cw_Fr cw_Ds cw_sh kk_X5_readPart.2.2.2.2.2.1 h0 h315 := cw_Fr_tr Fh314 (cw_Fr_mono (by decide +kernel) Ch315)
      have eh315_K_1 : ri_at h315 K 1 = hh := (ri_frf Ch315 (k := K) (d := 7) hK7 rfl (by decide +kernel)).trans eh314_K_1
      clear eh314_K_1
      have Wh315 := zOK_fr Ch315 (by decide +kernel) Wh314
      clear Wh314
      clear yah0 ybh0 ych0 ykh0 yvh0 yfh0
      obtain ⟨pnh315, yah315, ybh315, ych315, ydh315, yfh315⟩ := zCs_at Sh315
      obtain ⟨kch315, ykh315⟩ : ∃ k, ri_at h315 51 4 = k := ⟨_, rfl⟩
      obtain ⟨vch315, yvh315⟩ : ∃ k, ri_at h315 51 6 = k := ⟨_, rfl⟩
      rw [ykh315, yvh315] at ydh315
      replace ydh315 := zhd_i ydh315
      have zlh315 := zx_le (t := t) (n := n) (p := (zx t n p)) (by omega)
      refine ex_il oq_X5_readPart_51 gL302_2 ?_
      refine ex_tsw oq_X5_readPart_52 rfl (fun c316 => ⟨rfl, ?_⟩) (fun i hi c316 => ?_)
      · show cw_X _ _ _ 279 _ _ _
        exfalso; omega
      · match i, hi, c316 with
        | 0, _, c316 =>
          refine ⟨rfl, ?_⟩
          show cw_X _ _ _ 96 _ _ _
          exfalso; omega
        | 1, _, c316 =>
          refine ⟨rfl, ?_⟩
          show cw_X _ _ _ 154 _ _ _
          exfalso; omega
        | 2, _, c316 =>
          refine ⟨rfl, ?_⟩
          show cw_X _ _ _ 180 _ _ _
          exfalso; omega
        | 3, _, c316 =>
          refine ⟨rfl, ?_⟩
          show cw_X _ _ _ 188 _ _ _
          exfalso; omega
        | 4, _, c316 =>
          refine ⟨rfl, ?_⟩
          show cw_X _ _ _ 215 _ _ _
          exfalso; omega
        | 5, _, c316 =>
          refine ⟨rfl, ?_⟩
          show cw_X _ _ _ 230 _ _ _
          refine ex_al oq_X5_readPart_230 gL302_1 ?_
          refine ex_al oq_X5_readPart_231 gL302_0 ?_
          refine ex_ic oq_X5_readPart_232 (m := 0) (by decide) (fun x317 hx317 => ?_)
          refine ex_si oq_X5_readPart_233 (m := 9999) (by decide) (fun x318 hx318 => ?_)
          refine ex_cv oq_X5_readPart_236 (by decide) Th315 (k := 50) (d := 5) (as := [cv_i x317, cv_i x318]) (stk := [cv_r K]) rfl rfl rfl rfl rfl rfl ⟨rfl, rfl⟩ (R := fun o => ∃ (x : Int32) (hb : cv_H), o = (some (cv_i x), hb) ∧ cw_T G hb ∧ cw_Fr cw_Ds cw_sh kk_X5_readNumber_1.2.2.2.2.2.1 h315 hb ∧ zCr t n hb x (zn t n x317.toInt x318.toInt (zx t n p))) (ct_readNumber (t := t) (n := n) (fun i => by rw [ht, ← hA _ Fh315]) (fun i hi => by rw [hB _ Fh315]; exact hwd i hi) hn9 Th315 Sh315 x317 x318 (by omega) (by omega) (fun x hb b1 b2 b3 => ⟨x, hb, rfl, b1, b2, b3⟩)) (fun o ho => ?_)
          obtain ⟨x319, h320, rfl, Th320, Ch320, dx319⟩ := ho
          show cw_X _ _ _ _ _ [cv_i x319, cv_r K] h320
          rw [hx317, hx318] at dx319
          rw [E1] at dx319
          obtain ⟨wx319, Sh320⟩ := zCr_r dx319
          clear dx319
          have Fh320 : cw_Fr cw_Ds cw_sh kk_X5_readPart.2.2.2.2.2.1 h0 h320 := cw_Fr_tr Fh315 (cw_Fr_mono (by decide +kernel) Ch320)
          have eh320_K_1 : ri_at h320 K 1 = hh := (ri_frf Ch320 (k := K) (d := 7) hK7 rfl (by decide +kernel)).trans eh315_K_1
          clear eh315_K_1
          have Wh320 := zOK_fr Ch320 (by decide +kernel) Wh315
          clear Wh315
          clear yah315 ybh315 ych315 ykh315 yvh315 yfh315
          obtain ⟨pnh320, yah320, ybh320, ych320, ydh320, yfh320⟩ := zCs_at Sh320
          obtain ⟨kch320, ykh320⟩ : ∃ k, ri_at h320 51 4 = k := ⟨_, rfl⟩
          obtain ⟨vch320, yvh320⟩ : ∃ k, ri_at h320 51 6 = k := ⟨_, rfl⟩
          rw [ykh320, yvh320] at ydh320
          replace ydh320 := zhd_i ydh320
          have zlh320 := zx_le (t := t) (n := n) (p := q1) (by omega)
          refine ex_pfi oq_X5_readPart_239 Th320 (k := K) (d := 7) hK7 rfl rfl (cw_i32 _).1 (cw_i32 _).2 (fun h321 Th321 wh321 => ?_)
          have Fh321 : cw_Fr cw_Ds cw_sh kk_X5_readPart.2.2.2.2.2.1 h0 h321 := cw_Fr_tr Fh320 (cw_Fr_wrf wh321 (k := K) (d := 7) hK7 rfl (by decide +kernel))
          have eh321_K_1 : ri_at h321 K 1 = hh := (ri_ne wh321 (.inr (by decide))).trans eh320_K_1
          clear eh320_K_1
          have Sh321 := zCs_wr (d := 7) (k := K) wh321 hK7 Sh320 (.inl ⟨by decide, by decide⟩)
          have Wh321 := zOK_K wh321 hK7 Wh320
          clear Wh320
          refine ex_go oq_X5_readPart_242 (t := 284) rfl rfl ?_
          exact ex_retv oq_X5_readPart_284 rfl (hQ h321 Th321 Fh321 Wh321 (.inr ⟨fun j hj => match j, hj with | 0, _ => (((ri_ne wh321 (.inr (by decide))).trans ((ri_frf Ch320 (k := K) (d := 7) hK7 rfl (by decide +kernel)).trans ((ri_frf Ch315 (k := K) (d := 7) hK7 rfl (by decide +kernel)).trans (ri_ne wh314 (.inr (by decide))))))).trans ((hD.1 0 (by decide)).trans (by rw [zgU_ne (by decide)])) | 1, _ => (((ri_ne wh321 (.inr (by decide))).trans ((ri_frf Ch320 (k := K) (d := 7) hK7 rfl (by decide +kernel)).trans ((ri_frf Ch315 (k := K) (d := 7) hK7 rfl (by decide +kernel)).trans (ri_ne wh314 (.inr (by decide))))))).trans ((hD.1 1 (by decide)).trans (by rw [zgU_ne (by decide)])) | 2, _ => (((ri_ne wh321 (.inr (by decide))).trans ((ri_frf Ch320 (k := K) (d := 7) hK7 rfl (by decide +kernel)).trans ((ri_frf Ch315 (k := K) (d := 7) hK7 rfl (by decide +kernel)).trans (ri_ne wh314 (.inr (by decide))))))).trans ((hD.1 2 (by decide)).trans (by rw [zgU_ne (by decide)])) | 3, _ => (((ri_ne wh321 (.inr (by decide))).trans ((ri_frf Ch320 (k := K) (d := 7) hK7 rfl (by decide +kernel)).trans ((ri_frf Ch315 (k := K) (d := 7) hK7 rfl (by decide +kernel)).trans (ri_ne wh314 (.inr (by decide))))))).trans ((hD.1 3 (by decide)).trans (by rw [zgU_ne (by decide)])) | 4, _ => (((ri_ne wh321 (.inr (by decide))).trans ((ri_frf Ch320 (k := K) (d := 7) hK7 rfl (by decide +kernel)).trans ((ri_frf Ch315 (k := K) (d := 7) hK7 rfl (by decide +kernel)).trans (ri_ne wh314 (.inr (by decide))))))).trans ((hD.1 4 (by decide)).trans (by rw [zgU_ne (by decide)])) | 5, _ => (((ri_ne wh321 (.inr (by decide))).trans ((ri_frf Ch320 (k := K) (d := 7) hK7 rfl (by decide +kernel)).trans ((ri_frf Ch315 (k := K) (d := 7) hK7 rfl (by decide +kernel)).trans (ri_ne wh314 (.inr (by decide))))))).trans ((hD.1 5 (by decide)).trans (by rw [zgU_ne (by decide)])) | 6, _ => (((ri_ne wh321 (.inr (by decide))).trans ((ri_frf Ch320 (k := K) (d := 7) hK7 rfl (by decide +kernel)).trans ((ri_frf Ch315 (k := K) (d := 7) hK7 rfl (by decide +kernel)).trans (ri_ne wh314 (.inr (by decide))))))).trans ((hD.1 6 (by decide)).trans (by rw [zgU_ne (by decide)])) | 7, _ => (((ri_ne wh321 (.inr (by decide))).trans ((ri_frf Ch320 (k := K) (d := 7) hK7 rfl (by decide +kernel)).trans ((ri_frf Ch315 (k := K) (d := 7) hK7 rfl (by decide +kernel)).trans (ri_ne wh314 (.inr (by decide))))))).trans ((hD.1 7 (by decide)).trans (by rw [zgU_ne (by decide)])) | 8, _ => (((ri_ne wh321 (.inr (by decide))).trans ((ri_frf Ch320 (k := K) (d := 7) hK7 rfl (by decide +kernel)).trans ((ri_frf Ch315 (k := K) (d := 7) hK7 rfl (by decide +kernel)).trans (ri_ne wh314 (.inr (by decide))))))).trans ((hD.1 8 (by decide)).trans (by rw [zgU_ne (by decide)])) | 9, _ => (((ri_ne wh321 (.inr (by decide))).trans ((ri_frf Ch320 (k := K) (d := 7) hK7 rfl (by decide +kernel)).trans ((ri_frf Ch315 (k := K) (d := 7) hK7 rfl (by decide +kernel)).trans (ri_ne wh314 (.inr (by decide))))))).trans ((hD.1 9 (by decide)).trans (by rw [zgU_ne (by decide)])) | 10, _ => (((ri_ne wh321 (.inr (by decide))).trans ((ri_frf Ch320 (k := K) (d := 7) hK7 rfl (by decide +kernel)).trans ((ri_frf Ch315 (k := K) (d := 7) hK7 rfl (by decide +kernel)).trans (ri_ne wh314 (.inr (by decide))))))).trans ((hD.1 10 (by decide)).trans (by rw [zgU_ne (by decide)])) | 11, _ => (((ri_ne wh321 (.inr (by decide))).trans ((ri_frf Ch320 (k := K) (d := 7) hK7 rfl (by decide +kernel)).trans ((ri_frf Ch315 (k := K) (d := 7) hK7 rfl (by decide +kernel)).trans (ri_ne wh314 (.inr (by decide))))))).trans ((hD.1 11 (by decide)).trans (by rw [zgU_ne (by decide)])) | 12, _ => (((ri_ne wh321 (.inr (by decide))).trans ((ri_frf Ch320 (k := K) (d := 7) hK7 rfl (by decide +kernel)).trans ((ri_frf Ch315 (k := K) (d := 7) hK7 rfl (by decide +kernel)).trans (ri_ne wh314 (.inr (by decide))))))).trans ((hD.1 12 (by decide)).trans (by rw [zgU_ne (by decide)])) | 13, _ => (((rfl).trans (ri_self wh321))).trans ((show x319.toInt = v1 from by omega).trans (by rw [zgU_eq])) | j + 14, hj => absurd hj (by omega), fun j hj => (((ri_ne wh321 (.inl (cw_kne (k := (K + 1)) (d := 44) (k' := K) (d' := 7) hK44 hK7 (by decide)))).trans ((ri_frr Ch320 (k := (K + 1)) (d := 44) hK44 rfl (by decide +kernel)).trans ((ri_frr Ch315 (k := (K + 1)) (d := 44) hK44 rfl (by decide +kernel)).trans (ri_ne wh314 (.inl (cw_kne (k := (K + 1)) (d := 44) (k' := K) (d' := 7) hK44 hK7 (by decide)))))))).trans ((hD.2 j hj).trans (by rw [zgU_ne (by omega)]))⟩))
        | 6, _, c316 =>
          refine ⟨rfl, ?_⟩
          show cw_X _ _ _ 245 _ _ _
          exfalso; omega
        | i + 7, hi, _ => exact absurd hi (by show ¬ i + 7 < 7; omega)
    · refine ex_al oq_X5_readPart_25 gL302_0 ?_
      refine ex_ic oq_X5_readPart_26 (m := 3) (by decide) (fun x322 hx322 => ?_)
      refine ex_cv oq_X5_readPart_27 (by decide) hT (k := 50) (d := 5) (as := [cv_i x322]) (stk := []) rfl rfl rfl rfl rfl rfl ⟨rfl, rfl⟩ (R := fun o => ∃ (x : Int32) (hb : cv_H), o = (some (cv_i x), hb) ∧ cw_T G hb ∧ cw_Fr cw_Ds cw_sh kk_X5_fail.2.2.2.2.2.1 h0 hb ∧ x.toInt = 0 ∧ zCs t n (.inl (3, za t n p)) hb) (ct_failP (t := t) (n := n) (p := p) hT hS x322 hx322 (by decide) (fun x hb b1 b2 b3 b4 => ⟨x, hb, rfl, b1, b2, b3, b4⟩)) (fun o ho => ?_)
      obtain ⟨x323, h324, rfl, Th324, Ch324, zh324, Sh324⟩ := ho
      show cw_X _ _ _ _ _ [cv_i x323] h324
      have Fh324 : cw_Fr cw_Ds cw_sh kk_X5_readPart.2.2.2.2.2.1 h0 h324 := cw_Fr_tr Fh0 (cw_Fr_mono (by decide +kernel) Ch324)
      have eh324_K_1 : ri_at h324 K 1 = hh := (ri_frf Ch324 (k := K) (d := 7) hK7 rfl (by decide +kernel)).trans hg1
      have Wh324 := zOK_fr Ch324 (by decide +kernel) hOK
      refine ex_pop oq_X5_readPart_30 rfl ?_
      exact ex_retv oq_X5_readPart_31 rfl (hQ h324 Th324 Fh324 Wh324 (.inl (by have := (Sh324).1; omega)))
set_option maxHeartbeats 16000000 in
theorem ct_partD7 {h0 : cv_H} {n p : Nat} (ht : ∀ i, t i = ri_at h0 1 i % 256) (hwd : ∀ i, i < 34 → ri_at h0 52 i = tz_wc.getD i 0) (hn9 : n ≤ 900) (hT : cw_T G h0) {b : Nat} (hb : b = 2 ∨ b = 26) (hpl : zPL b h0) {K : Nat} (hK7 : cw_sh[K]? = some 7) (hK44 : cw_sh[K + 1]? = some 44) (hKr : cw_at h0 K 16 = some (cv_r (K + 1))) (hS : zCs t n (.inr p) h0) (hZ : zk t n p = 1 ∧ zw t n p = 32) {D : Nat → Int} (hD : zKD h0 K D) {hh : Int} (hg1 : ri_at h0 K 1 = hh) (hh2 : 24 ≤ hh ∧ hh ≤ 72) {v1 : Int} {q1 : Nat}  (E1 : zn t n 0 200 (zx t n p) = .inr (v1, q1)) (hQ : ∀ h', cw_T G h' → cw_Fr cw_Ds cw_sh kk_X5_readPart.2.2.2.2.2.1 h0 h' → zOK K h0 h' → (ri_at h' 50 4 ≠ 0 ∨ zKD h' K (zgU D 12 v1)) → Q (none, h')) : cw_X X 68 Q 0 (cv_ent 0 [cv_r 50, cv_r K]) [] h0 := by
  have Fh0 : cw_Fr cw_Ds cw_sh kk_X5_readPart.2.2.2.2.2.1 h0 h0 := cw_Fr_refl
  have hA : ∀ h, cw_Fr cw_Ds cw_sh kk_X5_readPart.2.2.2.2.2.1 h0 h → ∀ i, ri_at h 1 i = ri_at h0 1 i := fun h F i => ri_frr F (k := 1) (d := 13) rfl rfl (by decide +kernel)
  have hB : ∀ h, cw_Fr cw_Ds cw_sh kk_X5_readPart.2.2.2.2.2.1 h0 h → ∀ i, ri_at h 52 i = ri_at h0 52 i := fun h F i => ri_frr F (k := 52) (d := 43) rfl rfl (by decide +kernel)
  have hPL : ∀ h, cw_Fr cw_Ds cw_sh kk_X5_readPart.2.2.2.2.2.1 h0 h → zPL b h := fun h F => zPL_fr hb F (by decide +kernel) hpl
  have hb4 : cw_sh[b]? = some 4 := by rcases hb with rfl | rfl <;> rfl
  have hkb1 : cw_sh[b + 1]? = some 28 := by rcases hb with rfl | rfl <;> rfl
  have hkb2 : cw_sh[b + 2]? = some 29 := by rcases hb with rfl | rfl <;> rfl
  have hkb3 : cw_sh[b + 3]? = some 30 := by rcases hb with rfl | rfl <;> rfl
  have hkb4 : cw_sh[b + 4]? = some 31 := by rcases hb with rfl | rfl <;> rfl
  have hkb5 : cw_sh[b + 5]? = some 32 := by rcases hb with rfl | rfl <;> rfl
  have hkb6 : cw_sh[b + 6]? = some 33 := by rcases hb with rfl | rfl <;> rfl
  have hkb7 : cw_sh[b + 7]? = some 34 := by rcases hb with rfl | rfl <;> rfl
  have hkb8 : cw_sh[b + 8]? = some 35 := by rcases hb with rfl | rfl <;> rfl
  have hkb9 : cw_sh[b + 9]? = some 36 := by rcases hb with rfl | rfl <;> rfl
  have hkb10 : cw_sh[b + 10]? = some 37 := by rcases hb with rfl | rfl <;> rfl
  have hkb11 : cw_sh[b + 11]? = some 38 := by rcases hb with rfl | rfl <;> rfl
  have hkb12 : cw_sh[b + 12]? = some 39 := by rcases hb with rfl | rfl <;> rfl
  have hkb13 : cw_sh[b + 13]? = some 40 := by rcases hb with rfl | rfl <;> rfl
  have hkb14 : cw_sh[b + 14]? = some 41 := by rcases hb with rfl | rfl <;> rfl
  have hkb15 : cw_sh[b + 15]? = some 42 := by rcases hb with rfl | rfl <;> rfl
  have hKR : ∀ h, cw_Fr cw_Ds cw_sh kk_X5_readPart.2.2.2.2.2.1 h0 h → cw_at h K 16 = some (cv_r (K + 1)) := fun h F => (F.2 K 7 16 hK7 (by decide +kernel)).trans hKr
  have hOK : zOK K h0 h0 := zOK_0
  refine ex_al oq_X5_readPart_0 rfl ?_
  refine ex_gf oq_X5_readPart_1 hT (k := 50) (d := 5) rfl rfl (ri_ref (k := 50) (k' := 51) (d := 5) (f := 0) hT rfl rfl rfl (by decide) (ri_uniq (by decide +kernel))) ?_
  obtain ⟨pnh0, yah0, ybh0, ych0, ydh0, yfh0⟩ := zCs_at hS
  obtain ⟨kch0, ykh0⟩ : ∃ k, ri_at h0 51 4 = k := ⟨_, rfl⟩
  obtain ⟨vch0, yvh0⟩ : ∃ k, ri_at h0 51 6 = k := ⟨_, rfl⟩
  rw [ykh0, yvh0] at ydh0
  replace ydh0 := zhd_i ydh0
  have rlw := rl_pw (show tz_rel _ _ _ _ from ydh0)
  have zlh0 := zx_le (t := t) (n := n) (p := p) (by omega)
  obtain ⟨x301, ax301, rx301, lx301, ux301⟩ := ri_fld (k := 51) (d := 6) (f := 6) hT rfl rfl rfl
  try dsimp only at lx301 ux301
  refine ex_gf oq_X5_readPart_4 hT (k := 51) (d := 6) rfl rfl ax301 ?_
  clear lx301 ux301
  have rx301 := (rx301.symm.trans yvh0 : x301.toInt = vch0)
  refine ex_isA oq_X5_readPart_7 (fun L302 gL302_2 kL302 => ?_)
  have gL302_0 : cv_get L302 0 = some (cv_r 50) := kL302 0 _ (by decide) (fun q => absurd q (by decide)) rfl
  have gL302_1 : cv_get L302 1 = some (cv_r K) := kL302 1 _ (by decide) (fun _ => rfl) rfl
  refine ex_il oq_X5_readPart_8 gL302_2 ?_
  refine ex_bi oq_X5_readPart_9 (m := 16) (by decide) (fun x303 hx303 => ?_)
  refine ex_if oq_X5_readPart_11 (t := 32) rfl rfl (fun (c304 : x301.toInt = x303.toInt) => ?_) (fun (c304 : ¬ (x301.toInt = x303.toInt)) => ?_)
  · exfalso; omega
  · refine ex_al oq_X5_readPart_14 gL302_1 ?_
    obtain ⟨x305, ax305, rx305, lx305, ux305⟩ := ri_fld (k := K) (d := 7) (f := 15) hT hK7 rfl rfl
    try dsimp only at lx305 ux305
    refine ex_gf oq_X5_readPart_15 hT (k := K) (d := 7) hK7 rfl ax305 ?_
    clear lx305 ux305
    refine ex_ic oq_X5_readPart_18 (m := 1) (by decide) (fun x306 hx306 => ?_)
    refine ex_il oq_X5_readPart_19 gL302_2 ?_
    refine ex_any (f := fun x y => some x) oq_X5_readPart_20 rfl (fun x307 => ?_)
    refine ex_any (f := fun x y => some x) oq_X5_readPart_21 rfl (fun x308 => ?_)
    refine ex_if0 oq_X5_readPart_22 (t := 32) rfl rfl (fun (c309 : x308.toInt = 0) => ?_) (fun (c309 : ¬ (x308.toInt = 0)) => ?_)
    · refine ex_al oq_X5_readPart_32 gL302_1 ?_
      refine ex_dup oq_X5_readPart_33 rfl ?_
      obtain ⟨x310, ax310, rx310, lx310, ux310⟩ := ri_fld (k := K) (d := 7) (f := 15) hT hK7 rfl rfl
      try dsimp only at lx310 ux310
      refine ex_gf oq_X5_readPart_34 hT (k := K) (d := 7) hK7 rfl ax310 ?_
      clear lx310 ux310
      refine ex_ic oq_X5_readPart_37 (m := 1) (by decide) (fun x311 hx311 => ?_)
      refine ex_il oq_X5_readPart_38 gL302_2 ?_
      refine ex_any (f := fun x y => some x) oq_X5_readPart_39 rfl (fun x312 => ?_)
      refine ex_any (f := fun x y => some x) oq_X5_readPart_40 rfl (fun x313 => ?_)
      refine ex_pfi oq_X5_readPart_41 hT (k := K) (d := 7) hK7 rfl rfl (cw_i32 _).1 (cw_i32 _).2 (fun h314 Th314 wh314 => ?_)
      have Fh314 : cw_Fr cw_Ds cw_sh kk_X5_readPart.2.2.2.2.2.1 h0 h314 := cw_Fr_tr Fh0 (cw_Fr_wrf wh314 (k := K) (d := 7) hK7 rfl (by decide +kernel))
      have eh314_K_1 : ri_at h314 K 1 = hh := (ri_ne wh314 (.inr (by decide))).trans hg1
      have Sh314 := zCs_wr (d := 7) (k := K) wh314 hK7 hS (.inl ⟨by decide, by decide⟩)
      have Wh314 := zOK_K wh314 hK7 hOK
      refine ex_al oq_X5_readPart_44 gL302_0 ?_
      refine ex_gf oq_X5_readPart_45 Th314 (k := 50) (d := 5) rfl rfl (ri_ref (k := 50) (k' := 51) (d := 5) (f := 0) Th314 rfl rfl rfl (by decide) (ri_uniq (by decide +kernel))) ?_
      refine ex_cv oq_X5_readPart_48 (by decide) Th314 (k := 51) (d := 6) (as := []) (stk := []) rfl rfl rfl rfl rfl rfl ⟨rfl, rfl⟩ (R := fun o => ∃ hb : cv_H, o = (none, hb) ∧ cw_T G hb ∧ cw_Fr cw_Ds cw_sh kk_X6_step.2.2.2.2.2.1 h314 hb ∧ zCs t n (.inr (zx t n p)) hb) (ct_stepC (t := t) (n := n) (p := p) (fun i => by rw [ht, ← hA _ Fh314]) (fun i hi => by rw [hB _ Fh314]; exact hwd i hi) hn9 Th314 Sh314 (fun hb b1 b2 b3 => ⟨hb, rfl, b1, b2, b3⟩)) (fun o ho => ?_)
      obtain ⟨h315, rfl, Th315, Ch315, Sh315⟩ := ho
      show cw_X _ _ _ _ _ [] h315
      have Fh315 : cw_Fr cw_Ds cw_sh kk_X5_readPart.2.2.2.2.2.1 h0 h315 := cw_Fr_tr Fh314 (cw_Fr_mono (by decide +kernel) Ch315)
      have eh315_K_1 : ri_at h315 K 1 = hh := (ri_frf Ch315 (k := K) (d := 7) hK7 rfl (by decide +kernel)).trans eh314_K_1
      clear eh314_K_1
      have Wh315 := zOK_fr Ch315 (by decide +kernel) Wh314
      clear Wh314
      clear yah0 ybh0 ych0 ykh0 yvh0 yfh0
      obtain ⟨pnh315, yah315, ybh315, ych315, ydh315, yfh315⟩ := zCs_at Sh315
      obtain ⟨kch315, ykh315⟩ : ∃ k, ri_at h315 51 4 = k := ⟨_, rfl⟩
      obtain ⟨vch315, yvh315⟩ : ∃ k, ri_at h315 51 6 = k := ⟨_, rfl⟩
      rw [ykh315, yvh315] at ydh315
      replace ydh315 := zhd_i ydh315
      have zlh315 := zx_le (t := t) (n := n) (p := (zx t n p)) (by omega)
      refine ex_il oq_X5_readPart_51 gL302_2 ?_
      refine ex_tsw oq_X5_readPart_52 rfl (fun c316 => ⟨rfl, ?_⟩) (fun i hi c316 => ?_)
      · show cw_X _ _ _ 279 _ _ _
        exfalso; omega
      · match i, hi, c316 with
        | 0, _, c316 =>
          refine ⟨rfl, ?_⟩
          show cw_X _ _ _ 96 _ _ _
          exfalso; omega
        | 1, _, c316 =>
          refine ⟨rfl, ?_⟩
          show cw_X _ _ _ 154 _ _ _
          exfalso; omega
        | 2, _, c316 =>
          refine ⟨rfl, ?_⟩
          show cw_X _ _ _ 180 _ _ _
          exfalso; omega
        | 3, _, c316 =>
          refine ⟨rfl, ?_⟩
          show cw_X _ _ _ 188 _ _ _
          exfalso; omega
        | 4, _, c316 =>
          refine ⟨rfl, ?_⟩
          show cw_X _ _ _ 215 _ _ _
          refine ex_al oq_X5_readPart_215 gL302_1 ?_
          refine ex_al oq_X5_readPart_216 gL302_0 ?_
          refine ex_ic oq_X5_readPart_217 (m := 0) (by decide) (fun x317 hx317 => ?_)
          refine ex_si oq_X5_readPart_218 (m := 200) (by decide) (fun x318 hx318 => ?_)
          refine ex_cv oq_X5_readPart_221 (by decide) Th315 (k := 50) (d := 5) (as := [cv_i x317, cv_i x318]) (stk := [cv_r K]) rfl rfl rfl rfl rfl rfl ⟨rfl, rfl⟩ (R := fun o => ∃ (x : Int32) (hb : cv_H), o = (some (cv_i x), hb) ∧ cw_T G hb ∧ cw_Fr cw_Ds cw_sh kk_X5_readNumber_1.2.2.2.2.2.1 h315 hb ∧ zCr t n hb x (zn t n x317.toInt x318.toInt (zx t n p))) (ct_readNumber (t := t) (n := n) (fun i => by rw [ht, ← hA _ Fh315]) (fun i hi => by rw [hB _ Fh315]; exact hwd i hi) hn9 Th315 Sh315 x317 x318 (by omega) (by omega) (fun x hb b1 b2 b3 => ⟨x, hb, rfl, b1, b2, b3⟩)) (fun o ho => ?_)
          obtain ⟨x319, h320, rfl, Th320, Ch320, dx319⟩ := ho
          show cw_X _ _ _ _ _ [cv_i x319, cv_r K] h320
          rw [hx317, hx318] at dx319
          rw [E1] at dx319
          obtain ⟨wx319, Sh320⟩ := zCr_r dx319
          clear dx319
          have Fh320 : cw_Fr cw_Ds cw_sh kk_X5_readPart.2.2.2.2.2.1 h0 h320 := cw_Fr_tr Fh315 (cw_Fr_mono (by decide +kernel) Ch320)
          have eh320_K_1 : ri_at h320 K 1 = hh := (ri_frf Ch320 (k := K) (d := 7) hK7 rfl (by decide +kernel)).trans eh315_K_1
          clear eh315_K_1
          have Wh320 := zOK_fr Ch320 (by decide +kernel) Wh315
          clear Wh315
          clear yah315 ybh315 ych315 ykh315 yvh315 yfh315
          obtain ⟨pnh320, yah320, ybh320, ych320, ydh320, yfh320⟩ := zCs_at Sh320
          obtain ⟨kch320, ykh320⟩ : ∃ k, ri_at h320 51 4 = k := ⟨_, rfl⟩
          obtain ⟨vch320, yvh320⟩ : ∃ k, ri_at h320 51 6 = k := ⟨_, rfl⟩
          rw [ykh320, yvh320] at ydh320
          replace ydh320 := zhd_i ydh320
          have zlh320 := zx_le (t := t) (n := n) (p := q1) (by omega)
          refine ex_pfi oq_X5_readPart_224 Th320 (k := K) (d := 7) hK7 rfl rfl (cw_i32 _).1 (cw_i32 _).2 (fun h321 Th321 wh321 => ?_)
          have Fh321 : cw_Fr cw_Ds cw_sh kk_X5_readPart.2.2.2.2.2.1 h0 h321 := cw_Fr_tr Fh320 (cw_Fr_wrf wh321 (k := K) (d := 7) hK7 rfl (by decide +kernel))
          have eh321_K_1 : ri_at h321 K 1 = hh := (ri_ne wh321 (.inr (by decide))).trans eh320_K_1
          clear eh320_K_1
          have Sh321 := zCs_wr (d := 7) (k := K) wh321 hK7 Sh320 (.inl ⟨by decide, by decide⟩)
          have Wh321 := zOK_K wh321 hK7 Wh320
          clear Wh320
          refine ex_go oq_X5_readPart_227 (t := 284) rfl rfl ?_
          exact ex_retv oq_X5_readPart_284 rfl (hQ h321 Th321 Fh321 Wh321 (.inr ⟨fun j hj => match j, hj with | 0, _ => (((ri_ne wh321 (.inr (by decide))).trans ((ri_frf Ch320 (k := K) (d := 7) hK7 rfl (by decide +kernel)).trans ((ri_frf Ch315 (k := K) (d := 7) hK7 rfl (by decide +kernel)).trans (ri_ne wh314 (.inr (by decide))))))).trans ((hD.1 0 (by decide)).trans (by rw [zgU_ne (by decide)])) | 1, _ => (((ri_ne wh321 (.inr (by decide))).trans ((ri_frf Ch320 (k := K) (d := 7) hK7 rfl (by decide +kernel)).trans ((ri_frf Ch315 (k := K) (d := 7) hK7 rfl (by decide +kernel)).trans (ri_ne wh314 (.inr (by decide))))))).trans ((hD.1 1 (by decide)).trans (by rw [zgU_ne (by decide)])) | 2, _ => (((ri_ne wh321 (.inr (by decide))).trans ((ri_frf Ch320 (k := K) (d := 7) hK7 rfl (by decide +kernel)).trans ((ri_frf Ch315 (k := K) (d := 7) hK7 rfl (by decide +kernel)).trans (ri_ne wh314 (.inr (by decide))))))).trans ((hD.1 2 (by decide)).trans (by rw [zgU_ne (by decide)])) | 3, _ => (((ri_ne wh321 (.inr (by decide))).trans ((ri_frf Ch320 (k := K) (d := 7) hK7 rfl (by decide +kernel)).trans ((ri_frf Ch315 (k := K) (d := 7) hK7 rfl (by decide +kernel)).trans (ri_ne wh314 (.inr (by decide))))))).trans ((hD.1 3 (by decide)).trans (by rw [zgU_ne (by decide)])) | 4, _ => (((ri_ne wh321 (.inr (by decide))).trans ((ri_frf Ch320 (k := K) (d := 7) hK7 rfl (by decide +kernel)).trans ((ri_frf Ch315 (k := K) (d := 7) hK7 rfl (by decide +kernel)).trans (ri_ne wh314 (.inr (by decide))))))).trans ((hD.1 4 (by decide)).trans (by rw [zgU_ne (by decide)])) | 5, _ => (((ri_ne wh321 (.inr (by decide))).trans ((ri_frf Ch320 (k := K) (d := 7) hK7 rfl (by decide +kernel)).trans ((ri_frf Ch315 (k := K) (d := 7) hK7 rfl (by decide +kernel)).trans (ri_ne wh314 (.inr (by decide))))))).trans ((hD.1 5 (by decide)).trans (by rw [zgU_ne (by decide)])) | 6, _ => (((ri_ne wh321 (.inr (by decide))).trans ((ri_frf Ch320 (k := K) (d := 7) hK7 rfl (by decide +kernel)).trans ((ri_frf Ch315 (k := K) (d := 7) hK7 rfl (by decide +kernel)).trans (ri_ne wh314 (.inr (by decide))))))).trans ((hD.1 6 (by decide)).trans (by rw [zgU_ne (by decide)])) | 7, _ => (((ri_ne wh321 (.inr (by decide))).trans ((ri_frf Ch320 (k := K) (d := 7) hK7 rfl (by decide +kernel)).trans ((ri_frf Ch315 (k := K) (d := 7) hK7 rfl (by decide +kernel)).trans (ri_ne wh314 (.inr (by decide))))))).trans ((hD.1 7 (by decide)).trans (by rw [zgU_ne (by decide)])) | 8, _ => (((ri_ne wh321 (.inr (by decide))).trans ((ri_frf Ch320 (k := K) (d := 7) hK7 rfl (by decide +kernel)).trans ((ri_frf Ch315 (k := K) (d := 7) hK7 rfl (by decide +kernel)).trans (ri_ne wh314 (.inr (by decide))))))).trans ((hD.1 8 (by decide)).trans (by rw [zgU_ne (by decide)])) | 9, _ => (((ri_ne wh321 (.inr (by decide))).trans ((ri_frf Ch320 (k := K) (d := 7) hK7 rfl (by decide +kernel)).trans ((ri_frf Ch315 (k := K) (d := 7) hK7 rfl (by decide +kernel)).trans (ri_ne wh314 (.inr (by decide))))))).trans ((hD.1 9 (by decide)).trans (by rw [zgU_ne (by decide)])) | 10, _ => (((ri_ne wh321 (.inr (by decide))).trans ((ri_frf Ch320 (k := K) (d := 7) hK7 rfl (by decide +kernel)).trans ((ri_frf Ch315 (k := K) (d := 7) hK7 rfl (by decide +kernel)).trans (ri_ne wh314 (.inr (by decide))))))).trans ((hD.1 10 (by decide)).trans (by rw [zgU_ne (by decide)])) | 11, _ => (((ri_ne wh321 (.inr (by decide))).trans ((ri_frf Ch320 (k := K) (d := 7) hK7 rfl (by decide +kernel)).trans ((ri_frf Ch315 (k := K) (d := 7) hK7 rfl (by decide +kernel)).trans (ri_ne wh314 (.inr (by decide))))))).trans ((hD.1 11 (by decide)).trans (by rw [zgU_ne (by decide)])) | 12, _ => (((rfl).trans (ri_self wh321))).trans ((show x319.toInt = v1 from by omega).trans (by rw [zgU_eq])) | 13, _ => (((ri_ne wh321 (.inr (by decide))).trans ((ri_frf Ch320 (k := K) (d := 7) hK7 rfl (by decide +kernel)).trans ((ri_frf Ch315 (k := K) (d := 7) hK7 rfl (by decide +kernel)).trans (ri_ne wh314 (.inr (by decide))))))).trans ((hD.1 13 (by decide)).trans (by rw [zgU_ne (by decide)])) | j + 14, hj => absurd hj (by omega), fun j hj => (((ri_ne wh321 (.inl (cw_kne (k := (K + 1)) (d := 44) (k' := K) (d' := 7) hK44 hK7 (by decide)))).trans ((ri_frr Ch320 (k := (K + 1)) (d := 44) hK44 rfl (by decide +kernel)).trans ((ri_frr Ch315 (k := (K + 1)) (d := 44) hK44 rfl (by decide +kernel)).trans (ri_ne wh314 (.inl (cw_kne (k := (K + 1)) (d := 44) (k' := K) (d' := 7) hK44 hK7 (by decide)))))))).trans ((hD.2 j hj).trans (by rw [zgU_ne (by omega)]))⟩))
        | 5, _, c316 =>
          refine ⟨rfl, ?_⟩
          show cw_X _ _ _ 230 _ _ _
          exfalso; omega
        | 6, _, c316 =>
          refine ⟨rfl, ?_⟩
          show cw_X _ _ _ 245 _ _ _
          exfalso; omega
        | i + 7, hi, _ => exact absurd hi (by show ¬ i + 7 < 7; omega)
    · refine ex_al oq_X5_readPart_25 gL302_0 ?_
      refine ex_ic oq_X5_readPart_26 (m := 3) (by decide) (fun x322 hx322 => ?_)
      refine ex_cv oq_X5_readPart_27 (by decide) hT (k := 50) (d := 5) (as := [cv_i x322]) (stk := []) rfl rfl rfl rfl rfl rfl ⟨rfl, rfl⟩ (R := fun o => ∃ (x : Int32) (hb : cv_H), o = (some (cv_i x), hb) ∧ cw_T G hb ∧ cw_Fr cw_Ds cw_sh kk_X5_fail.2.2.2.2.2.1 h0 hb ∧ x.toInt = 0 ∧ zCs t n (.inl (3, za t n p)) hb) (ct_failP (t := t) (n := n) (p := p) hT hS x322 hx322 (by decide) (fun x hb b1 b2 b3 b4 => ⟨x, hb, rfl, b1, b2, b3, b4⟩)) (fun o ho => ?_)
      obtain ⟨x323, h324, rfl, Th324, Ch324, zh324, Sh324⟩ := ho
      show cw_X _ _ _ _ _ [cv_i x323] h324
      have Fh324 : cw_Fr cw_Ds cw_sh kk_X5_readPart.2.2.2.2.2.1 h0 h324 := cw_Fr_tr Fh0 (cw_Fr_mono (by decide +kernel) Ch324)
      have eh324_K_1 : ri_at h324 K 1 = hh := (ri_frf Ch324 (k := K) (d := 7) hK7 rfl (by decide +kernel)).trans hg1
      have Wh324 := zOK_fr Ch324 (by decide +kernel) hOK
      refine ex_pop oq_X5_readPart_30 rfl ?_
      exact ex_retv oq_X5_readPart_31 rfl (hQ h324 Th324 Fh324 Wh324 (.inl (by have := (Sh324).1; omega)))
set_option maxHeartbeats 16000000 in
theorem ct_partD6 {h0 : cv_H} {n p : Nat} (ht : ∀ i, t i = ri_at h0 1 i % 256) (hwd : ∀ i, i < 34 → ri_at h0 52 i = tz_wc.getD i 0) (hn9 : n ≤ 900) (hT : cw_T G h0) {b : Nat} (hb : b = 2 ∨ b = 26) (hpl : zPL b h0) {K : Nat} (hK7 : cw_sh[K]? = some 7) (hK44 : cw_sh[K + 1]? = some 44) (hKr : cw_at h0 K 16 = some (cv_r (K + 1))) (hS : zCs t n (.inr p) h0) (hZ : zk t n p = 1 ∧ zw t n p = 15) {D : Nat → Int} (hD : zKD h0 K D) {hh : Int} (hg1 : ri_at h0 K 1 = hh) (hh2 : 24 ≤ hh ∧ hh ≤ 72)   {cn : List Int} (hcc : ri_at h0 b 19 = cn.length) (hc6 : cn.length ≤ 6) (hcl : zNm h0 (b + 12) 0 cn) {cm : Nat} (hg14 : ri_at h0 K 14 = cm) (hcm : cm < 64) (hQ : ∀ h', cw_T G h' → cw_Fr cw_Ds cw_sh kk_X5_readPart.2.2.2.2.2.1 h0 h' → zOK K h0 h' → (ri_at h' 50 4 ≠ 0 ∨ zKD h' K (D)) → Q (none, h')) : cw_X X 68 Q 0 (cv_ent 0 [cv_r 50, cv_r K]) [] h0 := by
  have Fh0 : cw_Fr cw_Ds cw_sh kk_X5_readPart.2.2.2.2.2.1 h0 h0 := cw_Fr_refl
  have hA : ∀ h, cw_Fr cw_Ds cw_sh kk_X5_readPart.2.2.2.2.2.1 h0 h → ∀ i, ri_at h 1 i = ri_at h0 1 i := fun h F i => ri_frr F (k := 1) (d := 13) rfl rfl (by decide +kernel)
  have hB : ∀ h, cw_Fr cw_Ds cw_sh kk_X5_readPart.2.2.2.2.2.1 h0 h → ∀ i, ri_at h 52 i = ri_at h0 52 i := fun h F i => ri_frr F (k := 52) (d := 43) rfl rfl (by decide +kernel)
  have hPL : ∀ h, cw_Fr cw_Ds cw_sh kk_X5_readPart.2.2.2.2.2.1 h0 h → zPL b h := fun h F => zPL_fr hb F (by decide +kernel) hpl
  have hb4 : cw_sh[b]? = some 4 := by rcases hb with rfl | rfl <;> rfl
  have hkb1 : cw_sh[b + 1]? = some 28 := by rcases hb with rfl | rfl <;> rfl
  have hkb2 : cw_sh[b + 2]? = some 29 := by rcases hb with rfl | rfl <;> rfl
  have hkb3 : cw_sh[b + 3]? = some 30 := by rcases hb with rfl | rfl <;> rfl
  have hkb4 : cw_sh[b + 4]? = some 31 := by rcases hb with rfl | rfl <;> rfl
  have hkb5 : cw_sh[b + 5]? = some 32 := by rcases hb with rfl | rfl <;> rfl
  have hkb6 : cw_sh[b + 6]? = some 33 := by rcases hb with rfl | rfl <;> rfl
  have hkb7 : cw_sh[b + 7]? = some 34 := by rcases hb with rfl | rfl <;> rfl
  have hkb8 : cw_sh[b + 8]? = some 35 := by rcases hb with rfl | rfl <;> rfl
  have hkb9 : cw_sh[b + 9]? = some 36 := by rcases hb with rfl | rfl <;> rfl
  have hkb10 : cw_sh[b + 10]? = some 37 := by rcases hb with rfl | rfl <;> rfl
  have hkb11 : cw_sh[b + 11]? = some 38 := by rcases hb with rfl | rfl <;> rfl
  have hkb12 : cw_sh[b + 12]? = some 39 := by rcases hb with rfl | rfl <;> rfl
  have hkb13 : cw_sh[b + 13]? = some 40 := by rcases hb with rfl | rfl <;> rfl
  have hkb14 : cw_sh[b + 14]? = some 41 := by rcases hb with rfl | rfl <;> rfl
  have hkb15 : cw_sh[b + 15]? = some 42 := by rcases hb with rfl | rfl <;> rfl
  have hKR : ∀ h, cw_Fr cw_Ds cw_sh kk_X5_readPart.2.2.2.2.2.1 h0 h → cw_at h K 16 = some (cv_r (K + 1)) := fun h F => (F.2 K 7 16 hK7 (by decide +kernel)).trans hKr
  have hC19 : ∀ h, cw_Fr cw_Ds cw_sh kk_X5_readPart.2.2.2.2.2.1 h0 h → ri_at h b 19 = ri_at h0 b 19 := fun h F => ri_frf F (k := b) (d := 4) hb4 rfl (by decide +kernel)
  have hC12 : ∀ h, cw_Fr cw_Ds cw_sh kk_X5_readPart.2.2.2.2.2.1 h0 h → ∀ i, ri_at h (b + 12) i = ri_at h0 (b + 12) i := fun h F i => ri_frr F (k := b + 12) (d := 39) hkb12 rfl (by decide +kernel)
  have hOK : zOK K h0 h0 := zOK_0
  refine ex_al oq_X5_readPart_0 rfl ?_
  refine ex_gf oq_X5_readPart_1 hT (k := 50) (d := 5) rfl rfl (ri_ref (k := 50) (k' := 51) (d := 5) (f := 0) hT rfl rfl rfl (by decide) (ri_uniq (by decide +kernel))) ?_
  obtain ⟨pnh0, yah0, ybh0, ych0, ydh0, yfh0⟩ := zCs_at hS
  obtain ⟨kch0, ykh0⟩ : ∃ k, ri_at h0 51 4 = k := ⟨_, rfl⟩
  obtain ⟨vch0, yvh0⟩ : ∃ k, ri_at h0 51 6 = k := ⟨_, rfl⟩
  rw [ykh0, yvh0] at ydh0
  replace ydh0 := zhd_i ydh0
  have rlw := rl_pw (show tz_rel _ _ _ _ from ydh0)
  have zlh0 := zx_le (t := t) (n := n) (p := p) (by omega)
  obtain ⟨x301, ax301, rx301, lx301, ux301⟩ := ri_fld (k := 51) (d := 6) (f := 6) hT rfl rfl rfl
  try dsimp only at lx301 ux301
  refine ex_gf oq_X5_readPart_4 hT (k := 51) (d := 6) rfl rfl ax301 ?_
  clear lx301 ux301
  have rx301 := (rx301.symm.trans yvh0 : x301.toInt = vch0)
  refine ex_isA oq_X5_readPart_7 (fun L302 gL302_2 kL302 => ?_)
  have gL302_0 : cv_get L302 0 = some (cv_r 50) := kL302 0 _ (by decide) (fun q => absurd q (by decide)) rfl
  have gL302_1 : cv_get L302 1 = some (cv_r K) := kL302 1 _ (by decide) (fun _ => rfl) rfl
  refine ex_il oq_X5_readPart_8 gL302_2 ?_
  refine ex_bi oq_X5_readPart_9 (m := 16) (by decide) (fun x303 hx303 => ?_)
  refine ex_if oq_X5_readPart_11 (t := 32) rfl rfl (fun (c304 : x301.toInt = x303.toInt) => ?_) (fun (c304 : ¬ (x301.toInt = x303.toInt)) => ?_)
  · refine ex_al oq_X5_readPart_32 gL302_1 ?_
    refine ex_dup oq_X5_readPart_33 rfl ?_
    obtain ⟨x305, ax305, rx305, lx305, ux305⟩ := ri_fld (k := K) (d := 7) (f := 15) hT hK7 rfl rfl
    try dsimp only at lx305 ux305
    refine ex_gf oq_X5_readPart_34 hT (k := K) (d := 7) hK7 rfl ax305 ?_
    clear lx305 ux305
    refine ex_ic oq_X5_readPart_37 (m := 1) (by decide) (fun x306 hx306 => ?_)
    refine ex_il oq_X5_readPart_38 gL302_2 ?_
    refine ex_any (f := fun x y => some x) oq_X5_readPart_39 rfl (fun x307 => ?_)
    refine ex_any (f := fun x y => some x) oq_X5_readPart_40 rfl (fun x308 => ?_)
    refine ex_pfi oq_X5_readPart_41 hT (k := K) (d := 7) hK7 rfl rfl (cw_i32 _).1 (cw_i32 _).2 (fun h309 Th309 wh309 => ?_)
    have Fh309 : cw_Fr cw_Ds cw_sh kk_X5_readPart.2.2.2.2.2.1 h0 h309 := cw_Fr_tr Fh0 (cw_Fr_wrf wh309 (k := K) (d := 7) hK7 rfl (by decide +kernel))
    have eh309_K_1 : ri_at h309 K 1 = hh := (ri_ne wh309 (.inr (by decide))).trans hg1
    have eh309_K_14 : ri_at h309 K 14 = (cm : Int) := (ri_ne wh309 (.inr (by decide))).trans hg14
    have Sh309 := zCs_wr (d := 7) (k := K) wh309 hK7 hS (.inl ⟨by decide, by decide⟩)
    have Wh309 := zOK_K wh309 hK7 hOK
    refine ex_al oq_X5_readPart_44 gL302_0 ?_
    refine ex_gf oq_X5_readPart_45 Th309 (k := 50) (d := 5) rfl rfl (ri_ref (k := 50) (k' := 51) (d := 5) (f := 0) Th309 rfl rfl rfl (by decide) (ri_uniq (by decide +kernel))) ?_
    refine ex_cv oq_X5_readPart_48 (by decide) Th309 (k := 51) (d := 6) (as := []) (stk := []) rfl rfl rfl rfl rfl rfl ⟨rfl, rfl⟩ (R := fun o => ∃ hb : cv_H, o = (none, hb) ∧ cw_T G hb ∧ cw_Fr cw_Ds cw_sh kk_X6_step.2.2.2.2.2.1 h309 hb ∧ zCs t n (.inr (zx t n p)) hb) (ct_stepC (t := t) (n := n) (p := p) (fun i => by rw [ht, ← hA _ Fh309]) (fun i hi => by rw [hB _ Fh309]; exact hwd i hi) hn9 Th309 Sh309 (fun hb b1 b2 b3 => ⟨hb, rfl, b1, b2, b3⟩)) (fun o ho => ?_)
    obtain ⟨h310, rfl, Th310, Ch310, Sh310⟩ := ho
    show cw_X _ _ _ _ _ [] h310
    have Fh310 : cw_Fr cw_Ds cw_sh kk_X5_readPart.2.2.2.2.2.1 h0 h310 := cw_Fr_tr Fh309 (cw_Fr_mono (by decide +kernel) Ch310)
    have eh310_K_1 : ri_at h310 K 1 = hh := (ri_frf Ch310 (k := K) (d := 7) hK7 rfl (by decide +kernel)).trans eh309_K_1
    clear eh309_K_1
    have eh310_K_14 : ri_at h310 K 14 = (cm : Int) := (ri_frf Ch310 (k := K) (d := 7) hK7 rfl (by decide +kernel)).trans eh309_K_14
    clear eh309_K_14
    have Wh310 := zOK_fr Ch310 (by decide +kernel) Wh309
    clear Wh309
    clear yah0 ybh0 ych0 ykh0 yvh0 yfh0
    obtain ⟨pnh310, yah310, ybh310, ych310, ydh310, yfh310⟩ := zCs_at Sh310
    obtain ⟨kch310, ykh310⟩ : ∃ k, ri_at h310 51 4 = k := ⟨_, rfl⟩
    obtain ⟨vch310, yvh310⟩ : ∃ k, ri_at h310 51 6 = k := ⟨_, rfl⟩
    rw [ykh310, yvh310] at ydh310
    replace ydh310 := zhd_i ydh310
    have zlh310 := zx_le (t := t) (n := n) (p := (zx t n p)) (by omega)
    refine ex_il oq_X5_readPart_51 gL302_2 ?_
    refine ex_tsw oq_X5_readPart_52 rfl (fun c311 => ⟨rfl, ?_⟩) (fun i hi c311 => ?_)
    · show cw_X _ _ _ 279 _ _ _
      refine ex_al oq_X5_readPart_279 gL302_0 ?_
      refine ex_al oq_X5_readPart_280 gL302_1 ?_
      refine ex_cv oq_X5_readPart_281 (by decide) Th310 (k := 50) (d := 5) (as := [cv_r K]) (stk := []) rfl rfl rfl rfl rfl rfl ⟨rfl, rfl⟩ (R := fun o => ∃ hb : cv_H, o = (none, hb) ∧ cw_T G hb ∧ cw_Fr cw_Ds cw_sh kk_X5_readHas.2.2.2.2.2.1 h310 hb ∧ zOK K h310 hb) (ct_hasD (t := t) (n := n) (p := (zx t n p)) (fun i => by rw [ht, ← hA _ Fh310]) (fun i hi => by rw [hB _ Fh310]; exact hwd i hi) hn9 Th310 hb (hPL _ Fh310) hK7 Sh310 (cn := cn) ((hC19 _ Fh310).trans hcc) hc6 (zNm_eq hcl (hC12 _ Fh310)) (fun hb b1 b2 b3 => ⟨hb, rfl, b1, b2, b3⟩)) (fun o ho => ?_)
      obtain ⟨h312, rfl, Th312, Ch312, oh312⟩ := ho
      show cw_X _ _ _ _ _ [] h312
      have Fh312 : cw_Fr cw_Ds cw_sh kk_X5_readPart.2.2.2.2.2.1 h0 h312 := cw_Fr_tr Fh310 (cw_Fr_mono (by decide +kernel) Ch312)
      have eh312_K_1 : ri_at h312 K 1 = hh := (ri_frf Ch312 (k := K) (d := 7) hK7 rfl (by decide +kernel)).trans eh310_K_1
      clear eh310_K_1
      have Wh312 := zOK_tr Wh310 oh312
      clear Wh310
      exact ex_retv oq_X5_readPart_284 rfl (hQ h312 Th312 Fh312 Wh312 (.inr ⟨fun j hj => match j, hj with | 0, _ => (((ri_frf Ch312 (k := K) (d := 7) hK7 rfl (by decide +kernel)).trans ((ri_frf Ch310 (k := K) (d := 7) hK7 rfl (by decide +kernel)).trans (ri_ne wh309 (.inr (by decide)))))).trans ((hD.1 0 (by decide)).trans (by rfl)) | 1, _ => (((ri_frf Ch312 (k := K) (d := 7) hK7 rfl (by decide +kernel)).trans ((ri_frf Ch310 (k := K) (d := 7) hK7 rfl (by decide +kernel)).trans (ri_ne wh309 (.inr (by decide)))))).trans ((hD.1 1 (by decide)).trans (by rfl)) | 2, _ => (((ri_frf Ch312 (k := K) (d := 7) hK7 rfl (by decide +kernel)).trans ((ri_frf Ch310 (k := K) (d := 7) hK7 rfl (by decide +kernel)).trans (ri_ne wh309 (.inr (by decide)))))).trans ((hD.1 2 (by decide)).trans (by rfl)) | 3, _ => (((ri_frf Ch312 (k := K) (d := 7) hK7 rfl (by decide +kernel)).trans ((ri_frf Ch310 (k := K) (d := 7) hK7 rfl (by decide +kernel)).trans (ri_ne wh309 (.inr (by decide)))))).trans ((hD.1 3 (by decide)).trans (by rfl)) | 4, _ => (((ri_frf Ch312 (k := K) (d := 7) hK7 rfl (by decide +kernel)).trans ((ri_frf Ch310 (k := K) (d := 7) hK7 rfl (by decide +kernel)).trans (ri_ne wh309 (.inr (by decide)))))).trans ((hD.1 4 (by decide)).trans (by rfl)) | 5, _ => (((ri_frf Ch312 (k := K) (d := 7) hK7 rfl (by decide +kernel)).trans ((ri_frf Ch310 (k := K) (d := 7) hK7 rfl (by decide +kernel)).trans (ri_ne wh309 (.inr (by decide)))))).trans ((hD.1 5 (by decide)).trans (by rfl)) | 6, _ => (((ri_frf Ch312 (k := K) (d := 7) hK7 rfl (by decide +kernel)).trans ((ri_frf Ch310 (k := K) (d := 7) hK7 rfl (by decide +kernel)).trans (ri_ne wh309 (.inr (by decide)))))).trans ((hD.1 6 (by decide)).trans (by rfl)) | 7, _ => (((ri_frf Ch312 (k := K) (d := 7) hK7 rfl (by decide +kernel)).trans ((ri_frf Ch310 (k := K) (d := 7) hK7 rfl (by decide +kernel)).trans (ri_ne wh309 (.inr (by decide)))))).trans ((hD.1 7 (by decide)).trans (by rfl)) | 8, _ => (((ri_frf Ch312 (k := K) (d := 7) hK7 rfl (by decide +kernel)).trans ((ri_frf Ch310 (k := K) (d := 7) hK7 rfl (by decide +kernel)).trans (ri_ne wh309 (.inr (by decide)))))).trans ((hD.1 8 (by decide)).trans (by rfl)) | 9, _ => (((ri_frf Ch312 (k := K) (d := 7) hK7 rfl (by decide +kernel)).trans ((ri_frf Ch310 (k := K) (d := 7) hK7 rfl (by decide +kernel)).trans (ri_ne wh309 (.inr (by decide)))))).trans ((hD.1 9 (by decide)).trans (by rfl)) | 10, _ => (((ri_frf Ch312 (k := K) (d := 7) hK7 rfl (by decide +kernel)).trans ((ri_frf Ch310 (k := K) (d := 7) hK7 rfl (by decide +kernel)).trans (ri_ne wh309 (.inr (by decide)))))).trans ((hD.1 10 (by decide)).trans (by rfl)) | 11, _ => (((ri_frf Ch312 (k := K) (d := 7) hK7 rfl (by decide +kernel)).trans ((ri_frf Ch310 (k := K) (d := 7) hK7 rfl (by decide +kernel)).trans (ri_ne wh309 (.inr (by decide)))))).trans ((hD.1 11 (by decide)).trans (by rfl)) | 12, _ => (((ri_frf Ch312 (k := K) (d := 7) hK7 rfl (by decide +kernel)).trans ((ri_frf Ch310 (k := K) (d := 7) hK7 rfl (by decide +kernel)).trans (ri_ne wh309 (.inr (by decide)))))).trans ((hD.1 12 (by decide)).trans (by rfl)) | 13, _ => (((ri_frf Ch312 (k := K) (d := 7) hK7 rfl (by decide +kernel)).trans ((ri_frf Ch310 (k := K) (d := 7) hK7 rfl (by decide +kernel)).trans (ri_ne wh309 (.inr (by decide)))))).trans ((hD.1 13 (by decide)).trans (by rfl)) | j + 14, hj => absurd hj (by omega), fun j hj => (((ri_frr Ch312 (k := (K + 1)) (d := 44) hK44 rfl (by decide +kernel)).trans ((ri_frr Ch310 (k := (K + 1)) (d := 44) hK44 rfl (by decide +kernel)).trans (ri_ne wh309 (.inl (cw_kne (k := (K + 1)) (d := 44) (k' := K) (d' := 7) hK44 hK7 (by decide))))))).trans ((hD.2 j hj).trans (by rfl))⟩))
    · match i, hi, c311 with
      | 0, _, c311 =>
        refine ⟨rfl, ?_⟩
        show cw_X _ _ _ 96 _ _ _
        exfalso; omega
      | 1, _, c311 =>
        refine ⟨rfl, ?_⟩
        show cw_X _ _ _ 154 _ _ _
        exfalso; omega
      | 2, _, c311 =>
        refine ⟨rfl, ?_⟩
        show cw_X _ _ _ 180 _ _ _
        exfalso; omega
      | 3, _, c311 =>
        refine ⟨rfl, ?_⟩
        show cw_X _ _ _ 188 _ _ _
        exfalso; omega
      | 4, _, c311 =>
        refine ⟨rfl, ?_⟩
        show cw_X _ _ _ 215 _ _ _
        exfalso; omega
      | 5, _, c311 =>
        refine ⟨rfl, ?_⟩
        show cw_X _ _ _ 230 _ _ _
        exfalso; omega
      | 6, _, c311 =>
        refine ⟨rfl, ?_⟩
        show cw_X _ _ _ 245 _ _ _
        exfalso; omega
      | i + 7, hi, _ => exact absurd hi (by show ¬ i + 7 < 7; omega)
  · exfalso; omega
theorem ra_app {h h' h'' : cv_H} {R : Nat} {acc : List Int} {x : Int32} {v : Int} (w : cw_Wr h h' R acc.length (cv_i x)) (hl : ∀ j, j < acc.length → ri_at h R j = acc.getD j 0) (e : ∀ i, ri_at h'' R i = ri_at h' R i) (hx : x.toInt = v) : ∀ j, j < (acc ++ [v]).length → ri_at h'' R j = (acc ++ [v]).getD j 0 := by
  intro j hj
  have := zNm_app (h := h'') (R := R) (c := 0) (l := acc) (v := v) (fun k hk => by rw [Nat.zero_add, e, ri_ne w (.inr (by omega))]; exact hl k hk) (by rw [Nat.zero_add, e, ri_self w]; exact hx) j hj
  rw [Nat.zero_add] at this
  exact this
set_option maxHeartbeats 8000000 in
theorem ct_riseD {h0 : cv_H} {n : Nat} (ht : ∀ i, t i = ri_at h0 1 i % 256) (hwd : ∀ i, i < 34 → ri_at h0 52 i = tz_wc.getD i 0) (hn9 : n ≤ 900)  {b : Nat} (hb : b = 2 ∨ b = 26) (hpl : zPL b h0) {K : Nat} (hK7 : cw_sh[K]? = some 7) (hK44 : cw_sh[K + 1]? = some 44) (hKr : cw_at h0 K 16 = some (cv_r (K + 1))) {D : Nat → Int} {ws : List Int} (kk : ∀ h', cw_T G h' → cw_Fr cw_Ds cw_sh kk_X5_readPart.2.2.2.2.2.1 h0 h' → zOK K h0 h' → (∀ j, j < 14 → ri_at h' K j = D j) → (∀ j, j < 9 → ri_at h' (K + 1) j = ws.getD j 0) → Q (none, h')) :
    ∀ (u i : Nat) (L : cv_L) (I : Int32) (p : Nat) (h : cv_H) (acc vs : List Int) (q : Nat), i + u = 9 → cw_T G h → cw_Fr cw_Ds cw_sh kk_X5_readPart.2.2.2.2.2.1 h0 h → zOK K h0 h → zCs t n (.inr p) h → zns t n 0 200 u p = .inr (vs, q) → acc.length = i → acc ++ vs = ws → (∀ j, j < acc.length → ri_at h (K + 1) j = acc.getD j 0) → (∀ j, j < 14 → ri_at h K j = D j) → I.toInt = i → cv_get L 0 = some (cv_r 50) → cv_get L 1 = some (cv_r K) → cv_get L 3 = some (cv_i I) → cw_X X 68 Q 247 L [] h := by
  have Fh0 : cw_Fr cw_Ds cw_sh kk_X5_readPart.2.2.2.2.2.1 h0 h0 := cw_Fr_refl
  have hA : ∀ h, cw_Fr cw_Ds cw_sh kk_X5_readPart.2.2.2.2.2.1 h0 h → ∀ i, ri_at h 1 i = ri_at h0 1 i := fun h F i => ri_frr F (k := 1) (d := 13) rfl rfl (by decide +kernel)
  have hB : ∀ h, cw_Fr cw_Ds cw_sh kk_X5_readPart.2.2.2.2.2.1 h0 h → ∀ i, ri_at h 52 i = ri_at h0 52 i := fun h F i => ri_frr F (k := 52) (d := 43) rfl rfl (by decide +kernel)
  have hPL : ∀ h, cw_Fr cw_Ds cw_sh kk_X5_readPart.2.2.2.2.2.1 h0 h → zPL b h := fun h F => zPL_fr hb F (by decide +kernel) hpl
  have hb4 : cw_sh[b]? = some 4 := by rcases hb with rfl | rfl <;> rfl
  have hkb1 : cw_sh[b + 1]? = some 28 := by rcases hb with rfl | rfl <;> rfl
  have hkb2 : cw_sh[b + 2]? = some 29 := by rcases hb with rfl | rfl <;> rfl
  have hkb3 : cw_sh[b + 3]? = some 30 := by rcases hb with rfl | rfl <;> rfl
  have hkb4 : cw_sh[b + 4]? = some 31 := by rcases hb with rfl | rfl <;> rfl
  have hkb5 : cw_sh[b + 5]? = some 32 := by rcases hb with rfl | rfl <;> rfl
  have hkb6 : cw_sh[b + 6]? = some 33 := by rcases hb with rfl | rfl <;> rfl
  have hkb7 : cw_sh[b + 7]? = some 34 := by rcases hb with rfl | rfl <;> rfl
  have hkb8 : cw_sh[b + 8]? = some 35 := by rcases hb with rfl | rfl <;> rfl
  have hkb9 : cw_sh[b + 9]? = some 36 := by rcases hb with rfl | rfl <;> rfl
  have hkb10 : cw_sh[b + 10]? = some 37 := by rcases hb with rfl | rfl <;> rfl
  have hkb11 : cw_sh[b + 11]? = some 38 := by rcases hb with rfl | rfl <;> rfl
  have hkb12 : cw_sh[b + 12]? = some 39 := by rcases hb with rfl | rfl <;> rfl
  have hkb13 : cw_sh[b + 13]? = some 40 := by rcases hb with rfl | rfl <;> rfl
  have hkb14 : cw_sh[b + 14]? = some 41 := by rcases hb with rfl | rfl <;> rfl
  have hkb15 : cw_sh[b + 15]? = some 42 := by rcases hb with rfl | rfl <;> rfl
  have hKR : ∀ h, cw_Fr cw_Ds cw_sh kk_X5_readPart.2.2.2.2.2.1 h0 h → cw_at h K 16 = some (cv_r (K + 1)) := fun h F => (F.2 K 7 16 hK7 (by decide +kernel)).trans hKr
  intro u
  induction u with
  | zero =>
    intro i L I p h acc vs q hiu hT Fh hOK hS hE hac hws hr hD hI g0 g1 g3
    obtain ⟨rfl, -⟩ := zns_i0 hE
    refine ex_il oq_X5_readPart_247 g3 ?_
    refine ex_al oq_X5_readPart_248 g1 ?_
    refine ex_gf oq_X5_readPart_249 hT (k := K) (d := 7) hK7 rfl ((hKR _ Fh)) ?_
    refine ex_len oq_X5_readPart_252 hT (k := (K + 1)) (d := 44) hK44 rfl (by decide) (fun x101 hx101 => ?_)
    refine ex_if oq_X5_readPart_253 (t := 276) rfl rfl (fun (c102 : x101.toInt ≤ I.toInt) => ?_) (fun (c102 : ¬ (x101.toInt ≤ I.toInt)) => ?_)
    · refine ex_go oq_X5_readPart_276 (t := 284) rfl rfl ?_
      exact ex_retv oq_X5_readPart_284 rfl (kk h hT Fh hOK (fun j hj => match j, hj with | 0, _ => (rfl).trans (hD 0 (by decide)) | 1, _ => (rfl).trans (hD 1 (by decide)) | 2, _ => (rfl).trans (hD 2 (by decide)) | 3, _ => (rfl).trans (hD 3 (by decide)) | 4, _ => (rfl).trans (hD 4 (by decide)) | 5, _ => (rfl).trans (hD 5 (by decide)) | 6, _ => (rfl).trans (hD 6 (by decide)) | 7, _ => (rfl).trans (hD 7 (by decide)) | 8, _ => (rfl).trans (hD 8 (by decide)) | 9, _ => (rfl).trans (hD 9 (by decide)) | 10, _ => (rfl).trans (hD 10 (by decide)) | 11, _ => (rfl).trans (hD 11 (by decide)) | 12, _ => (rfl).trans (hD 12 (by decide)) | 13, _ => (rfl).trans (hD 13 (by decide)) | j + 14, hj => absurd hj (by omega)) (fun j hj => by have := hr j (by omega); rw [List.append_nil] at hws; rw [← hws]; exact this))
    · exfalso; omega
  | succ u ih =>
    intro i L I p h acc vs q hiu hT Fh hOK hS hE hac hws hr hD hI g0 g1 g3
    obtain ⟨v, p1, vs1, E1, E2, rfl⟩ := zns_i hE
    refine ex_il oq_X5_readPart_247 g3 ?_
    refine ex_al oq_X5_readPart_248 g1 ?_
    refine ex_gf oq_X5_readPart_249 hT (k := K) (d := 7) hK7 rfl ((hKR _ Fh)) ?_
    refine ex_len oq_X5_readPart_252 hT (k := (K + 1)) (d := 44) hK44 rfl (by decide) (fun x101 hx101 => ?_)
    refine ex_if oq_X5_readPart_253 (t := 276) rfl rfl (fun (c102 : x101.toInt ≤ I.toInt) => ?_) (fun (c102 : ¬ (x101.toInt ≤ I.toInt)) => ?_)
    · exfalso; omega
    · refine ex_al oq_X5_readPart_256 g1 ?_
      refine ex_gf oq_X5_readPart_257 hT (k := K) (d := 7) hK7 rfl ((hKR _ Fh)) ?_
      refine ex_il oq_X5_readPart_260 g3 ?_
      refine ex_al oq_X5_readPart_261 g0 ?_
      refine ex_ic oq_X5_readPart_262 (m := 0) (by decide) (fun x103 hx103 => ?_)
      refine ex_si oq_X5_readPart_263 (m := 200) (by decide) (fun x104 hx104 => ?_)
      refine ex_cv oq_X5_readPart_266 (by decide) hT (k := 50) (d := 5) (as := [cv_i x103, cv_i x104]) (stk := [cv_i I, cv_r (K + 1)]) rfl rfl rfl rfl rfl rfl ⟨rfl, rfl⟩ (R := fun o => ∃ (x : Int32) (hb : cv_H), o = (some (cv_i x), hb) ∧ cw_T G hb ∧ cw_Fr cw_Ds cw_sh kk_X5_readNumber_1.2.2.2.2.2.1 h hb ∧ zCr t n hb x (zn t n x103.toInt x104.toInt p)) (ct_readNumber (t := t) (n := n) (fun i => by rw [ht, ← hA _ Fh]) (fun i hi => by rw [hB _ Fh]; exact hwd i hi) hn9 hT hS x103 x104 (by omega) (by omega) (fun x hb b1 b2 b3 => ⟨x, hb, rfl, b1, b2, b3⟩)) (fun o ho => ?_)
      obtain ⟨x105, h106, rfl, Th106, Ch106, dx105⟩ := ho
      show cw_X _ _ _ _ _ [cv_i x105, cv_i I, cv_r (K + 1)] h106
      rw [hx103, hx104] at dx105
      rw [E1] at dx105
      obtain ⟨wx105, Sh106⟩ := zCr_r dx105
      clear dx105
      have Fh106 : cw_Fr cw_Ds cw_sh kk_X5_readPart.2.2.2.2.2.1 h0 h106 := cw_Fr_tr Fh (cw_Fr_mono (by decide +kernel) Ch106)
      have Wh106 := zOK_fr Ch106 (by decide +kernel) hOK
      obtain ⟨pnh106, yah106, ybh106, ych106, ydh106, yfh106⟩ := zCs_at Sh106
      obtain ⟨kch106, ykh106⟩ : ∃ k, ri_at h106 51 4 = k := ⟨_, rfl⟩
      obtain ⟨vch106, yvh106⟩ : ∃ k, ri_at h106 51 6 = k := ⟨_, rfl⟩
      rw [ykh106, yvh106] at ydh106
      replace ydh106 := zhd_i ydh106
      have zlh106 := zx_le (t := t) (n := n) (p := p1) (by omega)
      refine ex_iw1 oq_X5_readPart_269 Th106 (k := (K + 1)) (d := 44) (j := acc.length) hK44 rfl (by omega) (by omega) ⟨(cw_i32 _).1, (cw_i32 _).2⟩ (fun h107 Th107 wh107 => ?_)
      have Fh107 : cw_Fr cw_Ds cw_sh kk_X5_readPart.2.2.2.2.2.1 h0 h107 := cw_Fr_tr Fh106 (cw_Fr_wrr wh107 (k := (K + 1)) (d := 44) hK44 rfl (by decide +kernel))
      have Sh107 := zCs_wr (d := 44) (k := (K + 1)) wh107 hK44 Sh106 (.inl ⟨by decide, by decide⟩)
      have Wh107 := zOK_R wh107 hK44 Wh106
      clear Wh106
      refine ex_incA oq_X5_readPart_270 (v := I) (m := 1) g3 (by decide) (by omega) (fun L109 x108 hx108 gL109_3 kL109 => ?_)
      have gL109_0 : cv_get L109 0 = some (cv_r 50) := kL109 0 _ (by decide) (fun q => absurd q (by decide)) g0
      have gL109_1 : cv_get L109 1 = some (cv_r K) := kL109 1 _ (by decide) (fun q => absurd q (by decide)) g1
      refine ex_go oq_X5_readPart_273 (t := 247) rfl rfl ?_
      exact ih (i + 1) L109 x108 p1 h107 (acc ++ [v]) vs1 q (by omega) Th107 Fh107 Wh107 Sh107 E2 (by rw [List.length_append, List.length_singleton]; omega) (by rw [← hws, List.append_assoc]; rfl) (ra_app wh107 (fun j hj => ((ri_frr Ch106 (k := (K + 1)) (d := 44) hK44 rfl (by decide +kernel))).trans (hr j hj)) (fun i => rfl) wx105) (fun j hj => match j, hj with | 0, _ => (((ri_ne wh107 (.inl (cw_kne (k := K) (d := 7) (k' := (K + 1)) (d' := 44) hK7 hK44 (by decide)))).trans (ri_frf Ch106 (k := K) (d := 7) hK7 rfl (by decide +kernel)))).trans (hD 0 (by decide)) | 1, _ => (((ri_ne wh107 (.inl (cw_kne (k := K) (d := 7) (k' := (K + 1)) (d' := 44) hK7 hK44 (by decide)))).trans (ri_frf Ch106 (k := K) (d := 7) hK7 rfl (by decide +kernel)))).trans (hD 1 (by decide)) | 2, _ => (((ri_ne wh107 (.inl (cw_kne (k := K) (d := 7) (k' := (K + 1)) (d' := 44) hK7 hK44 (by decide)))).trans (ri_frf Ch106 (k := K) (d := 7) hK7 rfl (by decide +kernel)))).trans (hD 2 (by decide)) | 3, _ => (((ri_ne wh107 (.inl (cw_kne (k := K) (d := 7) (k' := (K + 1)) (d' := 44) hK7 hK44 (by decide)))).trans (ri_frf Ch106 (k := K) (d := 7) hK7 rfl (by decide +kernel)))).trans (hD 3 (by decide)) | 4, _ => (((ri_ne wh107 (.inl (cw_kne (k := K) (d := 7) (k' := (K + 1)) (d' := 44) hK7 hK44 (by decide)))).trans (ri_frf Ch106 (k := K) (d := 7) hK7 rfl (by decide +kernel)))).trans (hD 4 (by decide)) | 5, _ => (((ri_ne wh107 (.inl (cw_kne (k := K) (d := 7) (k' := (K + 1)) (d' := 44) hK7 hK44 (by decide)))).trans (ri_frf Ch106 (k := K) (d := 7) hK7 rfl (by decide +kernel)))).trans (hD 5 (by decide)) | 6, _ => (((ri_ne wh107 (.inl (cw_kne (k := K) (d := 7) (k' := (K + 1)) (d' := 44) hK7 hK44 (by decide)))).trans (ri_frf Ch106 (k := K) (d := 7) hK7 rfl (by decide +kernel)))).trans (hD 6 (by decide)) | 7, _ => (((ri_ne wh107 (.inl (cw_kne (k := K) (d := 7) (k' := (K + 1)) (d' := 44) hK7 hK44 (by decide)))).trans (ri_frf Ch106 (k := K) (d := 7) hK7 rfl (by decide +kernel)))).trans (hD 7 (by decide)) | 8, _ => (((ri_ne wh107 (.inl (cw_kne (k := K) (d := 7) (k' := (K + 1)) (d' := 44) hK7 hK44 (by decide)))).trans (ri_frf Ch106 (k := K) (d := 7) hK7 rfl (by decide +kernel)))).trans (hD 8 (by decide)) | 9, _ => (((ri_ne wh107 (.inl (cw_kne (k := K) (d := 7) (k' := (K + 1)) (d' := 44) hK7 hK44 (by decide)))).trans (ri_frf Ch106 (k := K) (d := 7) hK7 rfl (by decide +kernel)))).trans (hD 9 (by decide)) | 10, _ => (((ri_ne wh107 (.inl (cw_kne (k := K) (d := 7) (k' := (K + 1)) (d' := 44) hK7 hK44 (by decide)))).trans (ri_frf Ch106 (k := K) (d := 7) hK7 rfl (by decide +kernel)))).trans (hD 10 (by decide)) | 11, _ => (((ri_ne wh107 (.inl (cw_kne (k := K) (d := 7) (k' := (K + 1)) (d' := 44) hK7 hK44 (by decide)))).trans (ri_frf Ch106 (k := K) (d := 7) hK7 rfl (by decide +kernel)))).trans (hD 11 (by decide)) | 12, _ => (((ri_ne wh107 (.inl (cw_kne (k := K) (d := 7) (k' := (K + 1)) (d' := 44) hK7 hK44 (by decide)))).trans (ri_frf Ch106 (k := K) (d := 7) hK7 rfl (by decide +kernel)))).trans (hD 12 (by decide)) | 13, _ => (((ri_ne wh107 (.inl (cw_kne (k := K) (d := 7) (k' := (K + 1)) (d' := 44) hK7 hK44 (by decide)))).trans (ri_frf Ch106 (k := K) (d := 7) hK7 rfl (by decide +kernel)))).trans (hD 13 (by decide)) | j + 14, hj => absurd hj (by omega)) (by omega) gL109_0 gL109_1 gL109_3
set_option maxHeartbeats 16000000 in
theorem ct_partD5 {h0 : cv_H} {n p : Nat} (ht : ∀ i, t i = ri_at h0 1 i % 256) (hwd : ∀ i, i < 34 → ri_at h0 52 i = tz_wc.getD i 0) (hn9 : n ≤ 900) (hT : cw_T G h0) {b : Nat} (hb : b = 2 ∨ b = 26) (hpl : zPL b h0) {K : Nat} (hK7 : cw_sh[K]? = some 7) (hK44 : cw_sh[K + 1]? = some 44) (hKr : cw_at h0 K 16 = some (cv_r (K + 1))) (hS : zCs t n (.inr p) h0) (hZ : zk t n p = 1 ∧ zw t n p = 14) {D : Nat → Int} (hD : zKD h0 K D) {hh : Int} (hg1 : ri_at h0 K 1 = hh) (hh2 : 24 ≤ hh ∧ hh ≤ 72) {vs : List Int} {q1 : Nat} (E1 : zns t n 0 200 9 (zx t n p) = .inr (vs, q1)) (hQ : ∀ h', cw_T G h' → cw_Fr cw_Ds cw_sh kk_X5_readPart.2.2.2.2.2.1 h0 h' → zOK K h0 h' → (ri_at h' 50 4 ≠ 0 ∨ zKD h' K (fun j => if 16 ≤ j then vs.getD (j - 16) 0 else D j)) → Q (none, h')) : cw_X X 68 Q 0 (cv_ent 0 [cv_r 50, cv_r K]) [] h0 := by
  have Fh0 : cw_Fr cw_Ds cw_sh kk_X5_readPart.2.2.2.2.2.1 h0 h0 := cw_Fr_refl
  have hA : ∀ h, cw_Fr cw_Ds cw_sh kk_X5_readPart.2.2.2.2.2.1 h0 h → ∀ i, ri_at h 1 i = ri_at h0 1 i := fun h F i => ri_frr F (k := 1) (d := 13) rfl rfl (by decide +kernel)
  have hB : ∀ h, cw_Fr cw_Ds cw_sh kk_X5_readPart.2.2.2.2.2.1 h0 h → ∀ i, ri_at h 52 i = ri_at h0 52 i := fun h F i => ri_frr F (k := 52) (d := 43) rfl rfl (by decide +kernel)
  have hPL : ∀ h, cw_Fr cw_Ds cw_sh kk_X5_readPart.2.2.2.2.2.1 h0 h → zPL b h := fun h F => zPL_fr hb F (by decide +kernel) hpl
  have hb4 : cw_sh[b]? = some 4 := by rcases hb with rfl | rfl <;> rfl
  have hkb1 : cw_sh[b + 1]? = some 28 := by rcases hb with rfl | rfl <;> rfl
  have hkb2 : cw_sh[b + 2]? = some 29 := by rcases hb with rfl | rfl <;> rfl
  have hkb3 : cw_sh[b + 3]? = some 30 := by rcases hb with rfl | rfl <;> rfl
  have hkb4 : cw_sh[b + 4]? = some 31 := by rcases hb with rfl | rfl <;> rfl
  have hkb5 : cw_sh[b + 5]? = some 32 := by rcases hb with rfl | rfl <;> rfl
  have hkb6 : cw_sh[b + 6]? = some 33 := by rcases hb with rfl | rfl <;> rfl
  have hkb7 : cw_sh[b + 7]? = some 34 := by rcases hb with rfl | rfl <;> rfl
  have hkb8 : cw_sh[b + 8]? = some 35 := by rcases hb with rfl | rfl <;> rfl
  have hkb9 : cw_sh[b + 9]? = some 36 := by rcases hb with rfl | rfl <;> rfl
  have hkb10 : cw_sh[b + 10]? = some 37 := by rcases hb with rfl | rfl <;> rfl
  have hkb11 : cw_sh[b + 11]? = some 38 := by rcases hb with rfl | rfl <;> rfl
  have hkb12 : cw_sh[b + 12]? = some 39 := by rcases hb with rfl | rfl <;> rfl
  have hkb13 : cw_sh[b + 13]? = some 40 := by rcases hb with rfl | rfl <;> rfl
  have hkb14 : cw_sh[b + 14]? = some 41 := by rcases hb with rfl | rfl <;> rfl
  have hkb15 : cw_sh[b + 15]? = some 42 := by rcases hb with rfl | rfl <;> rfl
  have hKR : ∀ h, cw_Fr cw_Ds cw_sh kk_X5_readPart.2.2.2.2.2.1 h0 h → cw_at h K 16 = some (cv_r (K + 1)) := fun h F => (F.2 K 7 16 hK7 (by decide +kernel)).trans hKr
  have hOK : zOK K h0 h0 := zOK_0
  refine ex_al oq_X5_readPart_0 rfl ?_
  refine ex_gf oq_X5_readPart_1 hT (k := 50) (d := 5) rfl rfl (ri_ref (k := 50) (k' := 51) (d := 5) (f := 0) hT rfl rfl rfl (by decide) (ri_uniq (by decide +kernel))) ?_
  obtain ⟨pnh0, yah0, ybh0, ych0, ydh0, yfh0⟩ := zCs_at hS
  obtain ⟨kch0, ykh0⟩ : ∃ k, ri_at h0 51 4 = k := ⟨_, rfl⟩
  obtain ⟨vch0, yvh0⟩ : ∃ k, ri_at h0 51 6 = k := ⟨_, rfl⟩
  rw [ykh0, yvh0] at ydh0
  replace ydh0 := zhd_i ydh0
  have rlw := rl_pw (show tz_rel _ _ _ _ from ydh0)
  have zlh0 := zx_le (t := t) (n := n) (p := p) (by omega)
  obtain ⟨x301, ax301, rx301, lx301, ux301⟩ := ri_fld (k := 51) (d := 6) (f := 6) hT rfl rfl rfl
  try dsimp only at lx301 ux301
  refine ex_gf oq_X5_readPart_4 hT (k := 51) (d := 6) rfl rfl ax301 ?_
  clear lx301 ux301
  have rx301 := (rx301.symm.trans yvh0 : x301.toInt = vch0)
  refine ex_isA oq_X5_readPart_7 (fun L302 gL302_2 kL302 => ?_)
  have gL302_0 : cv_get L302 0 = some (cv_r 50) := kL302 0 _ (by decide) (fun q => absurd q (by decide)) rfl
  have gL302_1 : cv_get L302 1 = some (cv_r K) := kL302 1 _ (by decide) (fun _ => rfl) rfl
  refine ex_il oq_X5_readPart_8 gL302_2 ?_
  refine ex_bi oq_X5_readPart_9 (m := 16) (by decide) (fun x303 hx303 => ?_)
  refine ex_if oq_X5_readPart_11 (t := 32) rfl rfl (fun (c304 : x301.toInt = x303.toInt) => ?_) (fun (c304 : ¬ (x301.toInt = x303.toInt)) => ?_)
  · exfalso; omega
  · refine ex_al oq_X5_readPart_14 gL302_1 ?_
    obtain ⟨x305, ax305, rx305, lx305, ux305⟩ := ri_fld (k := K) (d := 7) (f := 15) hT hK7 rfl rfl
    try dsimp only at lx305 ux305
    refine ex_gf oq_X5_readPart_15 hT (k := K) (d := 7) hK7 rfl ax305 ?_
    clear lx305 ux305
    refine ex_ic oq_X5_readPart_18 (m := 1) (by decide) (fun x306 hx306 => ?_)
    refine ex_il oq_X5_readPart_19 gL302_2 ?_
    refine ex_any (f := fun x y => some x) oq_X5_readPart_20 rfl (fun x307 => ?_)
    refine ex_any (f := fun x y => some x) oq_X5_readPart_21 rfl (fun x308 => ?_)
    refine ex_if0 oq_X5_readPart_22 (t := 32) rfl rfl (fun (c309 : x308.toInt = 0) => ?_) (fun (c309 : ¬ (x308.toInt = 0)) => ?_)
    · refine ex_al oq_X5_readPart_32 gL302_1 ?_
      refine ex_dup oq_X5_readPart_33 rfl ?_
      obtain ⟨x310, ax310, rx310, lx310, ux310⟩ := ri_fld (k := K) (d := 7) (f := 15) hT hK7 rfl rfl
      try dsimp only at lx310 ux310
      refine ex_gf oq_X5_readPart_34 hT (k := K) (d := 7) hK7 rfl ax310 ?_
      clear lx310 ux310
      refine ex_ic oq_X5_readPart_37 (m := 1) (by decide) (fun x311 hx311 => ?_)
      refine ex_il oq_X5_readPart_38 gL302_2 ?_
      refine ex_any (f := fun x y => some x) oq_X5_readPart_39 rfl (fun x312 => ?_)
      refine ex_any (f := fun x y => some x) oq_X5_readPart_40 rfl (fun x313 => ?_)
      refine ex_pfi oq_X5_readPart_41 hT (k := K) (d := 7) hK7 rfl rfl (cw_i32 _).1 (cw_i32 _).2 (fun h314 Th314 wh314 => ?_)
      have Fh314 : cw_Fr cw_Ds cw_sh kk_X5_readPart.2.2.2.2.2.1 h0 h314 := cw_Fr_tr Fh0 (cw_Fr_wrf wh314 (k := K) (d := 7) hK7 rfl (by decide +kernel))
      have eh314_K_1 : ri_at h314 K 1 = hh := (ri_ne wh314 (.inr (by decide))).trans hg1
      have Sh314 := zCs_wr (d := 7) (k := K) wh314 hK7 hS (.inl ⟨by decide, by decide⟩)
      have Wh314 := zOK_K wh314 hK7 hOK
      refine ex_al oq_X5_readPart_44 gL302_0 ?_
      refine ex_gf oq_X5_readPart_45 Th314 (k := 50) (d := 5) rfl rfl (ri_ref (k := 50) (k' := 51) (d := 5) (f := 0) Th314 rfl rfl rfl (by decide) (ri_uniq (by decide +kernel))) ?_
      refine ex_cv oq_X5_readPart_48 (by decide) Th314 (k := 51) (d := 6) (as := []) (stk := []) rfl rfl rfl rfl rfl rfl ⟨rfl, rfl⟩ (R := fun o => ∃ hb : cv_H, o = (none, hb) ∧ cw_T G hb ∧ cw_Fr cw_Ds cw_sh kk_X6_step.2.2.2.2.2.1 h314 hb ∧ zCs t n (.inr (zx t n p)) hb) (ct_stepC (t := t) (n := n) (p := p) (fun i => by rw [ht, ← hA _ Fh314]) (fun i hi => by rw [hB _ Fh314]; exact hwd i hi) hn9 Th314 Sh314 (fun hb b1 b2 b3 => ⟨hb, rfl, b1, b2, b3⟩)) (fun o ho => ?_)
      obtain ⟨h315, rfl, Th315, Ch315, Sh315⟩ := ho
      show cw_X _ _ _ _ _ [] h315
      have Fh315 : cw_Fr cw_Ds cw_sh kk_X5_readPart.2.2.2.2.2.1 h0 h315 := cw_Fr_tr Fh314 (cw_Fr_mono (by decide +kernel) Ch315)
      have eh315_K_1 : ri_at h315 K 1 = hh := (ri_frf Ch315 (k := K) (d := 7) hK7 rfl (by decide +kernel)).trans eh314_K_1
      clear eh314_K_1
      have Wh315 := zOK_fr Ch315 (by decide +kernel) Wh314
      clear Wh314
      clear yah0 ybh0 ych0 ykh0 yvh0 yfh0
      obtain ⟨pnh315, yah315, ybh315, ych315, ydh315, yfh315⟩ := zCs_at Sh315
      obtain ⟨kch315, ykh315⟩ : ∃ k, ri_at h315 51 4 = k := ⟨_, rfl⟩
      obtain ⟨vch315, yvh315⟩ : ∃ k, ri_at h315 51 6 = k := ⟨_, rfl⟩
      rw [ykh315, yvh315] at ydh315
      replace ydh315 := zhd_i ydh315
      have zlh315 := zx_le (t := t) (n := n) (p := (zx t n p)) (by omega)
      refine ex_il oq_X5_readPart_51 gL302_2 ?_
      refine ex_tsw oq_X5_readPart_52 rfl (fun c316 => ⟨rfl, ?_⟩) (fun i hi c316 => ?_)
      · show cw_X _ _ _ 279 _ _ _
        exfalso; omega
      · match i, hi, c316 with
        | 0, _, c316 =>
          refine ⟨rfl, ?_⟩
          show cw_X _ _ _ 96 _ _ _
          exfalso; omega
        | 1, _, c316 =>
          refine ⟨rfl, ?_⟩
          show cw_X _ _ _ 154 _ _ _
          exfalso; omega
        | 2, _, c316 =>
          refine ⟨rfl, ?_⟩
          show cw_X _ _ _ 180 _ _ _
          exfalso; omega
        | 3, _, c316 =>
          refine ⟨rfl, ?_⟩
          show cw_X _ _ _ 188 _ _ _
          exfalso; omega
        | 4, _, c316 =>
          refine ⟨rfl, ?_⟩
          show cw_X _ _ _ 215 _ _ _
          exfalso; omega
        | 5, _, c316 =>
          refine ⟨rfl, ?_⟩
          show cw_X _ _ _ 230 _ _ _
          exfalso; omega
        | 6, _, c316 =>
          refine ⟨rfl, ?_⟩
          show cw_X _ _ _ 245 _ _ _
          refine ex_ic oq_X5_readPart_245 (m := 0) (by decide) (fun x317 hx317 => ?_)
          refine ex_isA oq_X5_readPart_246 (fun L318 gL318_3 kL318 => ?_)
          have gL318_2 : cv_get L318 2 = some (cv_i x301) := kL318 2 _ (by decide) (fun _ => rfl) gL302_2
          have gL318_0 : cv_get L318 0 = some (cv_r 50) := kL318 0 _ (by decide) (fun q => absurd q (by decide)) gL302_0
          have gL318_1 : cv_get L318 1 = some (cv_r K) := kL318 1 _ (by decide) (fun q => absurd q (by decide)) gL302_1
          exact ct_riseD ht hwd hn9 hb hpl hK7 hK44 hKr (D := D) (ws := vs) (fun h' c1 c2 c0 c3 c4 => hQ h' c1 c2 c0 (.inr ⟨fun j hj => (c3 j hj).trans (if_neg (by omega)).symm, fun j hj => (c4 j hj).trans (by show _ = if 16 ≤ 16 + j then vs.getD (16 + j - 16) 0 else _; rw [if_pos (by omega), Nat.add_sub_cancel_left])⟩)) 9 0 L318 x317 (zx t n p) h315 [] vs q1 (by omega) Th315 Fh315 Wh315 Sh315 E1 rfl rfl (fun j hj => absurd hj (Nat.not_lt_zero j)) (fun j hj => match j, hj with | 0, _ => (((ri_frf Ch315 (k := K) (d := 7) hK7 rfl (by decide +kernel)).trans (ri_ne wh314 (.inr (by decide))))).trans (hD.1 0 (by decide)) | 1, _ => (((ri_frf Ch315 (k := K) (d := 7) hK7 rfl (by decide +kernel)).trans (ri_ne wh314 (.inr (by decide))))).trans (hD.1 1 (by decide)) | 2, _ => (((ri_frf Ch315 (k := K) (d := 7) hK7 rfl (by decide +kernel)).trans (ri_ne wh314 (.inr (by decide))))).trans (hD.1 2 (by decide)) | 3, _ => (((ri_frf Ch315 (k := K) (d := 7) hK7 rfl (by decide +kernel)).trans (ri_ne wh314 (.inr (by decide))))).trans (hD.1 3 (by decide)) | 4, _ => (((ri_frf Ch315 (k := K) (d := 7) hK7 rfl (by decide +kernel)).trans (ri_ne wh314 (.inr (by decide))))).trans (hD.1 4 (by decide)) | 5, _ => (((ri_frf Ch315 (k := K) (d := 7) hK7 rfl (by decide +kernel)).trans (ri_ne wh314 (.inr (by decide))))).trans (hD.1 5 (by decide)) | 6, _ => (((ri_frf Ch315 (k := K) (d := 7) hK7 rfl (by decide +kernel)).trans (ri_ne wh314 (.inr (by decide))))).trans (hD.1 6 (by decide)) | 7, _ => (((ri_frf Ch315 (k := K) (d := 7) hK7 rfl (by decide +kernel)).trans (ri_ne wh314 (.inr (by decide))))).trans (hD.1 7 (by decide)) | 8, _ => (((ri_frf Ch315 (k := K) (d := 7) hK7 rfl (by decide +kernel)).trans (ri_ne wh314 (.inr (by decide))))).trans (hD.1 8 (by decide)) | 9, _ => (((ri_frf Ch315 (k := K) (d := 7) hK7 rfl (by decide +kernel)).trans (ri_ne wh314 (.inr (by decide))))).trans (hD.1 9 (by decide)) | 10, _ => (((ri_frf Ch315 (k := K) (d := 7) hK7 rfl (by decide +kernel)).trans (ri_ne wh314 (.inr (by decide))))).trans (hD.1 10 (by decide)) | 11, _ => (((ri_frf Ch315 (k := K) (d := 7) hK7 rfl (by decide +kernel)).trans (ri_ne wh314 (.inr (by decide))))).trans (hD.1 11 (by decide)) | 12, _ => (((ri_frf Ch315 (k := K) (d := 7) hK7 rfl (by decide +kernel)).trans (ri_ne wh314 (.inr (by decide))))).trans (hD.1 12 (by decide)) | 13, _ => (((ri_frf Ch315 (k := K) (d := 7) hK7 rfl (by decide +kernel)).trans (ri_ne wh314 (.inr (by decide))))).trans (hD.1 13 (by decide)) | j + 14, hj => absurd hj (by omega)) (by omega) gL318_0 gL318_1 gL318_3
        | i + 7, hi, _ => exact absurd hi (by show ¬ i + 7 < 7; omega)
    · refine ex_al oq_X5_readPart_25 gL302_0 ?_
      refine ex_ic oq_X5_readPart_26 (m := 3) (by decide) (fun x319 hx319 => ?_)
      refine ex_cv oq_X5_readPart_27 (by decide) hT (k := 50) (d := 5) (as := [cv_i x319]) (stk := []) rfl rfl rfl rfl rfl rfl ⟨rfl, rfl⟩ (R := fun o => ∃ (x : Int32) (hb : cv_H), o = (some (cv_i x), hb) ∧ cw_T G hb ∧ cw_Fr cw_Ds cw_sh kk_X5_fail.2.2.2.2.2.1 h0 hb ∧ x.toInt = 0 ∧ zCs t n (.inl (3, za t n p)) hb) (ct_failP (t := t) (n := n) (p := p) hT hS x319 hx319 (by decide) (fun x hb b1 b2 b3 b4 => ⟨x, hb, rfl, b1, b2, b3, b4⟩)) (fun o ho => ?_)
      obtain ⟨x320, h321, rfl, Th321, Ch321, zh321, Sh321⟩ := ho
      show cw_X _ _ _ _ _ [cv_i x320] h321
      have Fh321 : cw_Fr cw_Ds cw_sh kk_X5_readPart.2.2.2.2.2.1 h0 h321 := cw_Fr_tr Fh0 (cw_Fr_mono (by decide +kernel) Ch321)
      have eh321_K_1 : ri_at h321 K 1 = hh := (ri_frf Ch321 (k := K) (d := 7) hK7 rfl (by decide +kernel)).trans hg1
      have Wh321 := zOK_fr Ch321 (by decide +kernel) hOK
      refine ex_pop oq_X5_readPart_30 rfl ?_
      exact ex_retv oq_X5_readPart_31 rfl (hQ h321 Th321 Fh321 Wh321 (.inl (by have := (Sh321).1; omega)))
end TZ
