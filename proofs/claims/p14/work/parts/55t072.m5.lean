section
/-! ===== a law's value: the reference ===== -/
def zLo (o : Option (List Int)) (N : Nat → Int) : Option Int := match o with
  | none => none
  | some cs => zLV N cs
theorem gLw_o {o : Option (List Int)} {N : Nat → Int} : gLw o N = gCl (zLo o N) := by cases o <;> rfl
/-- a law as the reference holds it -/
def zRL (h : cv_H) (l : Nat) (o : Option (List Int)) : Prop := match o with
  | none => ri_at h 117 l = 0
  | some cs => ri_at h 117 l = 1 ∧ zWf cs ∧ ∃ a : Nat, ri_at h 115 l = a ∧ ri_at h 116 l = ((a + cs.length : Nat) : Int) ∧ a + cs.length ≤ 64 ∧ zKN h 0 a [] cs
theorem zRL_eq {h h' : cv_H} {l : Nat} {o : Option (List Int)} (a : zRL h l o) (e : ∀ k i, (k = 115 ∨ k = 116 ∨ k = 117 ∨ k = 125 ∨ k = 126 ∨ k = 127) → ri_at h' k i = ri_at h k i) : zRL h' l o := by
  cases o with
  | none => exact (e 117 l (by omega)).trans a
  | some cs =>
    obtain ⟨a1, a2, x, a3, a4, a5, a6⟩ := a
    exact ⟨(e 117 l (by omega)).trans a1, a2, x, (e 115 l (by omega)).trans a3, (e 116 l (by omega)).trans a4, a5, zKN_eq a6 (fun j _ => ⟨e 125 _ (by omega), e 126 _ (by omega), e 127 _ (by omega)⟩)⟩
/-- what working a law out may change -/
def zE9 (h h' : cv_H) : Prop := (∀ k : Nat, k ≠ 111 → k ≠ 133 → h'[k]? = h[k]?) ∧ ∀ i, i ≠ 48 → cw_at h' 111 i = cw_at h 111 i
theorem zE9_0 {h : cv_H} : zE9 h h := ⟨fun _ _ _ => rfl, fun _ _ => rfl⟩
theorem zE9_8 {h0 h h' : cv_H} (a : zE9 h0 h) (w : zE8 h h') : zE9 h0 h' := ⟨fun k p q => (w.1 k p).trans (a.1 k p q), fun i q => (w.2 i q).trans (a.2 i q)⟩
theorem zE9_w {h0 h h' : cv_H} {j : Nat} {v : cv_V} (a : zE9 h0 h) (w : cw_Wr h h' 133 j v) : zE9 h0 h' := ⟨fun k p q => (w.2.2 k q).trans (a.1 k p q), fun i q => (w.2.1 111 i (.inl (by decide))).trans (a.2 i q)⟩
theorem zE9_at {h0 h : cv_H} {k i : Nat} (a : zE9 h0 h) (p : k ≠ 111) (q : k ≠ 133) : cw_at h k i = cw_at h0 k i := by unfold cw_at; rw [a.1 k p q]
theorem zE9_ri {h0 h : cv_H} {k i : Nat} (a : zE9 h0 h) (p : k ≠ 111) (q : k ≠ 133) : ri_at h k i = ri_at h0 k i := ri_eq (zE9_at a p q)
theorem zE9_rl {h0 h : cv_H} {k i : Nat} (a : zE9 h0 h) (p : k ≠ 111) (q : k ≠ 133) : rl_at h k i = rl_at h0 k i := rl_eq (zE9_at a p q)
theorem zls_last : ∀ (l : List Int), 0 < l.length → ∃ p c, l = p ++ [c]
  | [], h => absurd h (by simp)
  | [a], _ => ⟨[], a, rfl⟩
  | a :: b :: l, _ => by
    obtain ⟨p, c, e⟩ := zls_last (b :: l) (by simp)
    exact ⟨a :: p, c, by rw [e]; rfl⟩
theorem zmd : ∀ (n : Nat) (l : List Int) (v : Int), v ∈ l.drop n → v ∈ l
  | 0, _, _, h => h
  | _ + 1, [], _, h => h
  | n + 1, a :: l, v, h => List.mem_cons_of_mem a (zmd n l v h)
theorem zmp {f g : Int → Int} : ∀ {l : List Int}, (∀ v, v ∈ l → f v = g v) → l.map f = l.map g
  | [], _ => rfl
  | a :: l, e => by
    rw [List.map_cons, List.map_cons, e a (List.mem_cons_self ..), zmp (fun v hv => e v (List.mem_cons_of_mem a hv))]
theorem zq_r {c : Int} {I : List Int} {a k : Nat} (h : 0 ≤ c ∧ c ≤ 20012 ∧ (c < 10010 ∨ 20000 ≤ c)) (hk : zka c ≤ I.length) (hI : ∀ v, v ∈ I → (a : Int) ≤ v ∧ v < k) : (0 ≤ zq1 c ∧ zq1 c ≤ 14) ∧ (zq1 c = 0 → 0 ≤ zq2 I c ∧ zq2 I c ≤ 9999) ∧ (zq1 c = 1 → 0 ≤ zq2 I c ∧ zq2 I c < 10) ∧ (2 ≤ zq1 c → (a : Int) ≤ zq2 I c ∧ zq2 I c < k) ∧ (3 ≤ zq1 c → (a : Int) ≤ zq3 I c ∧ zq3 I c < k) := by
  by_cases c1 : c < 10000
  · have e1 : zq1 c = 0 := by unfold zq1; rw [if_pos c1]
    have e2 : zq2 I c = c := by unfold zq2; rw [if_pos c1]
    rw [e1, e2]
    exact ⟨by omega, fun _ => by omega, fun q => by omega, fun q => by omega, fun q => by omega⟩
  by_cases c2 : c < 20000
  · have e1 : zq1 c = 1 := by unfold zq1; rw [if_neg c1, if_pos c2]
    have e2 : zq2 I c = c - 10000 := by unfold zq2; rw [if_neg c1, if_pos c2]
    rw [e1, e2]
    exact ⟨by omega, fun q => by omega, fun _ => by omega, fun q => by omega, fun q => by omega⟩
  by_cases c3 : c = 20002
  · subst c3
    obtain ⟨x, I', rfl⟩ := zls1 (show 1 ≤ I.length from hk)
    have e1 : zq1 20002 = 2 := by decide
    have e2 : zq2 (x :: I') 20002 = x := rfl
    have hx := hI x (List.mem_cons_self ..)
    rw [e1, e2]
    exact ⟨by omega, fun q => by omega, fun q => by omega, fun _ => hx, fun q => by omega⟩
  have ek : zka c = 2 := by unfold zka; rw [if_neg c2, if_neg c3]
  rw [ek] at hk
  obtain ⟨y, x, I', rfl⟩ := zls2 hk
  have e1 : zq1 c = zri c := by unfold zq1; rw [if_neg c1, if_neg c2]
  have e2 : zq2 (y :: x :: I') c = x := by unfold zq2; rw [if_neg c1, if_neg c2, if_neg c3]; rfl
  have e3 : zq3 (y :: x :: I') c = y := by unfold zq3; rw [if_neg c2, if_neg c3]; rfl
  have er : 3 ≤ zri c ∧ zri c ≤ 14 := by
    unfold zri
    repeat' split
    all_goals omega
  have hx := hI x (List.mem_cons_of_mem y (List.mem_cons_self ..))
  have hy := hI y (List.mem_cons_self ..)
  rw [e1, e2, e3]
  exact ⟨by omega, fun q => by omega, fun q => by omega, fun _ => hx, fun _ => hy⟩
/-- values of the knots that wait, or the law has none -/
def zSt (N V : Nat → Int) (pre I : List Int) (e : Int) : Prop := (e = 0 ∧ zev N pre [] = some (I.map (fun i => V i.toNat))) ∨ (e = 1 ∧ zev N pre [] = none)
theorem zSt_s {N V V' : Nat → Int} {pre I : List Int} {c e e' y : Int} {kn : Nat} (st : zSt N V pre I e) (h0 : 0 ≤ c) (hd : zka c ≤ I.length) (hI : ∀ v, v ∈ I → 0 ≤ v ∧ v < kn) (hk : V' kn = y) (hV : ∀ j, j < kn → V' j = V j) (d : (e = 0 ∧ e' = 0 ∧ zvo N V (zq1 c) (zq2 I c) (zq3 I c) = some y) ∨ (e' = 1 ∧ (e = 1 ∨ zvo N V (zq1 c) (zq2 I c) (zq3 I c) = none))) : zSt N V' (pre ++ [c]) ((kn : Int) :: I.drop (zka c)) e' := by
  rcases st with ⟨s1, s2⟩ | ⟨s1, s2⟩
  · have q := zev_ap (c := c) s2
    rw [zvo_E h0 hd (fun v hv => (hI v hv).1)] at q
    rcases d with ⟨_, d2, d3⟩ | ⟨d1, d2 | d2⟩
    · refine .inl ⟨d2, ?_⟩
      rw [q, d3]
      have m := zmp (f := fun i => V' i.toNat) (g := fun i => V i.toNat) (l := I.drop (zka c)) (fun v hv => hV v.toNat (by have := hI v (zmd _ _ _ hv); omega))
      show some (y :: (I.drop (zka c)).map (fun i => V i.toNat)) = some (V' ((kn : Int)).toNat :: (I.drop (zka c)).map (fun i => V' i.toNat))
      rw [m, show ((kn : Int)).toNat = kn from by omega, hk]
    · exfalso; omega
    · exact .inr ⟨d1, by rw [q, d2]; rfl⟩
  · rcases d with ⟨d1, _⟩ | ⟨d1, _⟩
    · exfalso; omega
    · exact .inr ⟨d1, zev_no s2⟩
theorem zLV_top {N V : Nat → Int} {a : Nat} {cs : List Int} (hw : 0 < cs.length) (h1 : ∀ S, zev N cs [] = some S → S.length = 1) (h : zev N cs [] = some ((zkS a [] cs).map (fun i => V i.toNat))) : zLV N cs = some (V (a + cs.length - 1)) := by
  have l1 := h1 _ h
  unfold zLV
  rw [h]
  obtain ⟨p, c, rfl⟩ := zls_last cs hw
  rw [zkS_app] at l1 ⊢
  show some (V (((a + p.length : Nat) : Int)).toNat) = _
  rw [show (((a + p.length : Nat) : Int)).toNat = a + (p ++ [c]).length - 1 from by rw [List.length_append, List.length_singleton]; omega]
section GN
variable {G : Int} {X : cv_X} {Q : cv_O → Prop} {h0 : cv_H}
section LO
variable {a ln : Nat} {l : Int32} {cs : List Int} {N : Nat → Int}
set_option maxHeartbeats 4000000 in
theorem lo_lp (hl : l.toInt = ln) (hl4 : ln < 4) (hA : ri_at h0 115 ln = a) (hB : ri_at h0 116 ln = ((a + cs.length : Nat) : Int)) (h64 : a + cs.length ≤ 64) (hw : 0 < cs.length) (hcb : ∀ c, c ∈ cs → 0 ≤ c ∧ c ≤ 20012 ∧ (c < 10010 ∨ 20000 ≤ c)) (h1 : ∀ S, zev N cs [] = some S → S.length = 1) (hN : ∀ j, j < 10 → rl_at h0 132 j = N j) (hNb : ∀ j, zbb (N j)) (hQ : ∀ (y : Int64) h', cw_T G h' → zE9 h0 h' → (ri_at h' 111 48 = 0 ∧ zLV N cs = some y.toInt ∨ ri_at h' 111 48 = 1 ∧ zLV N cs = none ∧ y.toInt = 0) → Q (some (cv_l y), h')) : ∀ (rest pre : List Int) (V : Nat → Int) (KK : Int32) (h : cv_H) (L : cv_L) (e : Int), pre ++ rest = cs → zKN h0 0 (a + pre.length) (zkS a [] pre) rest → (∀ v, v ∈ zkS a [] pre → (a : Int) ≤ v ∧ v < ((a + pre.length : Nat) : Int)) → (∀ j, j < 64 → rl_at h 133 j = V j) → (∀ j, a ≤ j → j < a + pre.length → zbb (V j)) → zSt N V pre (zkS a [] pre) e → ri_at h 111 48 = e → KK.toInt = ((a + pre.length : Nat) : Int) → cw_T G h → zE9 h0 h → cv_get L 0 = some (cv_r 111) → cv_get L 1 = some (cv_i l) → cv_get L 2 = some (cv_i KK) → cw_X X 213 Q 34 L [] h := by
  intro rest
  induction rest with
  | nil =>
    intro pre V KK h L e hpre hK hI hV hVb st he hKK hT hE g0 g1 g2
    rw [List.append_nil] at hpre
    rw [hpre] at st hKK
    refine ex_il oq_X12_lawOf_34 g2 ?_
    refine ex_al oq_X12_lawOf_35 g0 ?_
    refine ex_gf oq_X12_lawOf_36 hT (k := 111) (d := 12) rfl rfl (fr_lawLast hT) ?_
    refine ex_il oq_X12_lawOf_39 g1 ?_
    refine ex_ia1 oq_X12_lawOf_40 hT (k := 116) (d := 55) (j := ln) rfl rfl (by omega) (by omega) (fun x101 hx101 lx101 ux101 => ?_)
    have hx101 := (hx101.symm.trans ((zE9_ri hE (by decide) (by decide)).trans hB) : x101.toInt = ((a + cs.length : Nat) : Int))
    refine ex_if oq_X12_lawOf_41 (t := 61) rfl rfl (fun (c102 : x101.toInt ≤ KK.toInt) => ?_) (fun (c102 : ¬ (x101.toInt ≤ KK.toInt)) => ?_)
    · refine ex_al oq_X12_lawOf_61 g0 ?_
      obtain ⟨x103, ax103, rx103, lx103, ux103⟩ := fi_isError hT
      refine ex_gf oq_X12_lawOf_62 hT (k := 111) (d := 12) rfl rfl ax103 ?_
      have rx103 := (rx103.symm.trans he : x103.toInt = e)
      refine ex_if0 oq_X12_lawOf_65 (t := 72) rfl rfl (fun (c104 : x103.toInt = 0) => ?_) (fun (c104 : ¬ (x103.toInt = 0)) => ?_)
      · refine ex_al oq_X12_lawOf_72 g0 ?_
        refine ex_gf oq_X12_lawOf_73 hT (k := 111) (d := 12) rfl rfl (fr_value hT) ?_
        refine ex_al oq_X12_lawOf_76 g0 ?_
        refine ex_gf oq_X12_lawOf_77 hT (k := 111) (d := 12) rfl rfl (fr_lawLast hT) ?_
        refine ex_il oq_X12_lawOf_80 g1 ?_
        refine ex_ia1 oq_X12_lawOf_81 hT (k := 116) (d := 55) (j := ln) rfl rfl (by omega) (by omega) (fun x105 hx105 lx105 ux105 => ?_)
        have hx105 := (hx105.symm.trans ((zE9_ri hE (by decide) (by decide)).trans hB) : x105.toInt = ((a + cs.length : Nat) : Int))
        refine ex_ic oq_X12_lawOf_82 (m := 1) (by decide) (fun x106 hx106 => ?_)
        refine ex_sub oq_X12_lawOf_83 (by omega) (fun x107 hx107 => ?_)
        refine ex_laV oq_X12_lawOf_84 hT (k := 133) (d := 72) (j := a + cs.length - 1) rfl rfl (by omega) (by omega) (fun x108 hx108 => ?_)
        replace hx108 : x108.toInt = V (a + cs.length - 1) := hx108.symm.trans (hV _ (by omega))
        rcases st with ⟨s1, s2⟩ | ⟨s1, s2⟩
        · exact ex_retl oq_X12_lawOf_85 rfl (hQ x108 h hT hE (.inl ⟨he.trans s1, by rw [zLV_top hw h1 s2]; exact congrArg some (by omega)⟩))
        · exfalso; omega
      · refine ex_lc oq_X12_lawOf_68 (m := 0) (by decide) (fun x109 hx109 => ?_)
        refine ex_go oq_X12_lawOf_69 (t := 85) rfl rfl ?_
        rcases st with ⟨s1, s2⟩ | ⟨s1, s2⟩
        · exfalso; omega
        · exact ex_retl oq_X12_lawOf_85 rfl (hQ x109 h hT hE (.inr ⟨he.trans s1, by unfold zLV; rw [s2], by omega⟩))
    · exfalso; omega
  | cons c rest ih =>
    intro pre V KK h L e hpre hK hI hV hVb st he hKK hT hE g0 g1 g2
    have hpl : pre.length < cs.length := by rw [← hpre, List.length_append, List.length_cons]; omega
    have hc0 := hcb c (by rw [← hpre]; exact List.mem_append_right _ (List.mem_cons_self ..))
    obtain ⟨⟨⟨k1, k2, k3⟩, k4⟩, k5⟩ := hK
    rw [Nat.zero_add] at k1 k2 k3
    replace k1 := (zE9_ri hE (by decide) (by decide)).trans k1
    replace k2 := (zE9_ri hE (by decide) (by decide)).trans k2
    replace k3 := (zE9_ri hE (by decide) (by decide)).trans k3
    obtain ⟨f1, f2, f3, f4, f5⟩ := zq_r (a := a) (k := a + pre.length) hc0 k4 hI
    have h01 : e = 0 ∨ e = 1 := by rcases st with s | s; exact .inl s.1; exact .inr s.1
    refine ex_il oq_X12_lawOf_34 g2 ?_
    refine ex_al oq_X12_lawOf_35 g0 ?_
    refine ex_gf oq_X12_lawOf_36 hT (k := 111) (d := 12) rfl rfl (fr_lawLast hT) ?_
    refine ex_il oq_X12_lawOf_39 g1 ?_
    refine ex_ia1 oq_X12_lawOf_40 hT (k := 116) (d := 55) (j := ln) rfl rfl (by omega) (by omega) (fun x101 hx101 lx101 ux101 => ?_)
    have hx101 := (hx101.symm.trans ((zE9_ri hE (by decide) (by decide)).trans hB) : x101.toInt = ((a + cs.length : Nat) : Int))
    refine ex_if oq_X12_lawOf_41 (t := 61) rfl rfl (fun (c102 : x101.toInt ≤ KK.toInt) => ?_) (fun (c102 : ¬ (x101.toInt ≤ KK.toInt)) => ?_)
    · exfalso; omega
    · refine ex_al oq_X12_lawOf_44 g0 ?_
      refine ex_gf oq_X12_lawOf_45 hT (k := 111) (d := 12) rfl rfl (fr_value hT) ?_
      refine ex_il oq_X12_lawOf_48 g2 ?_
      refine ex_al oq_X12_lawOf_49 g0 ?_
      refine ex_il oq_X12_lawOf_50 g2 ?_
      refine ex_cv oq_X12_lawOf_51 (by decide) hT (k := 111) (d := 12) (as := [cv_i KK]) (stk := [cv_i KK, cv_r 133]) rfl rfl rfl rfl rfl rfl ⟨rfl, rfl⟩ (R := fun o => ∃ (y : Int64) (hb : cv_H), o = (some (cv_l y), hb) ∧ cw_T G hb ∧ zE8 h hb ∧ zbb y.toInt ∧ zvR (zvo N V (zq1 c) (zq2 (zkS a [] pre) c) (zq3 (zkS a [] pre) c)) e y.toInt hb) (rl_valueOf hT (kn := a + pre.length) (by omega) (by omega) k1 k2 k3 f1 f2 f3 (fun q => by have := f4 q; omega) (fun q => by have := f5 q; omega) (fun j hj => (zE9_rl hE (by decide) (by decide)).trans (hN j hj)) hNb hV (fun q => hVb _ (by have := f4 q; omega) (by have := f4 q; omega)) (fun q => hVb _ (by have := f5 q; omega) (by have := f5 q; omega)) he h01 (fun y hb b1 b2 b3 b4 => ⟨y, hb, rfl, b1, b2, b3, b4⟩)) (fun o ho => ?_)
      obtain ⟨x103, h104, rfl, Th104, zh104, bx103, dx103⟩ := ho
      show cw_X _ _ _ _ _ [cv_l x103, cv_i KK, cv_r 133] h104
      obtain ⟨eh104, heh104⟩ : ∃ z, ri_at h104 111 48 = z := ⟨_, rfl⟩
      unfold zvR at dx103
      rw [heh104] at dx103
      have hVh104 : ∀ j, j < 64 → rl_at h104 133 j = V j := fun j hj => (rl_eq (by unfold cw_at; rw [zh104.1 133 (by decide)])).trans (hV j hj)
      refine ex_lw oq_X12_lawOf_54 Th104 (k := 133) (d := 72) (j := a + pre.length) rfl rfl (by omega) (by omega) (fun h105 Th105 wh105 => ?_)
      have eh105_111_48 : ri_at h105 111 48 = eh104 := (ri_ne wh105 (.inl (by decide))).trans heh104
      refine ex_incA oq_X12_lawOf_55 (v := KK) (m := 1) g2 (by decide) (by omega) (fun L107 x106 hx106 gL107_2 kL107 => ?_)
      have gL107_0 : cv_get L107 0 = some (cv_r 111) := kL107 0 _ (by decide) (fun q => absurd q (by decide)) g0
      have gL107_1 : cv_get L107 1 = some (cv_i l) := kL107 1 _ (by decide) (fun _ => rfl) g1
      refine ex_go oq_X12_lawOf_58 (t := 34) rfl rfl ?_
      have ez := zSt_s (V' := fun j => if j = a + pre.length then x103.toInt else V j) (kn := a + pre.length) st hc0.1 k4 (fun v hv => by have := hI v hv; omega) (if_pos rfl) (fun j hj => if_neg (by omega)) dx103
      refine ih (pre ++ [c]) (fun j => if j = a + pre.length then x103.toInt else V j) x106 h105 L107 eh104 (by rw [List.append_assoc]; exact hpre) ?_ ?_ ?_ ?_ ?_ eh105_111_48 (by rw [List.length_append, List.length_singleton]; omega) Th105 (zE9_w (zE9_8 hE zh104) wh105) gL107_0 gL107_1 gL107_2
      · rw [zkS_app, List.length_append, List.length_singleton]
        exact k5
      · rw [zkS_app, List.length_append, List.length_singleton]
        intro v hv
        rcases List.mem_cons.mp hv with q | q
        · omega
        · have := hI v (zmd _ _ _ q)
          omega
      · intro j hj
        by_cases cj : j = a + pre.length
        · show _ = if j = a + pre.length then _ else _
          rw [if_pos cj, cj]
          exact rl_self wh105
        · show _ = if j = a + pre.length then _ else _
          rw [if_neg cj]
          exact (rl_ne wh105 (.inr cj)).trans (hVh104 j hj)
      · intro j hj1 hj2
        rw [List.length_append, List.length_singleton] at hj2
        show zbb (if j = a + pre.length then _ else _)
        by_cases cj : j = a + pre.length
        · rw [if_pos cj]; exact bx103
        · rw [if_neg cj]; exact hVb j hj1 (by omega)
      · rw [zkS_app]; exact ez
end LO
theorem rl_lawOf (hT : cw_T G h0) {l : Int32} {ln : Nat} (hl : l.toInt = ln) (hl4 : ln < 4) {oo : Option (List Int)} (hL : zRL h0 ln oo) {N : Nat → Int} (hN : ∀ j, j < 10 → rl_at h0 132 j = N j) (hNb : ∀ j, zbb (N j)) (hQ : ∀ (y : Int64) h', cw_T G h' → zE9 h0 h' → (ri_at h' 111 48 = 0 ∧ zLo oo N = some y.toInt ∨ ri_at h' 111 48 = 1 ∧ zLo oo N = none ∧ y.toInt = 0) → Q (some (cv_l y), h')) : cw_X X 213 Q 0 (cv_ent 0 [cv_r 111, cv_i l]) [] h0 := by
  cases oo with
  | none =>
    have hTd : ri_at h0 117 ln = 0 := hL
    refine ex_al oq_X12_lawOf_0 rfl ?_
    refine ex_al oq_X12_lawOf_1 rfl ?_
    refine ex_gf oq_X12_lawOf_2 hT (k := 111) (d := 12) rfl rfl (fr_lawTold hT) ?_
    refine ex_il oq_X12_lawOf_5 rfl ?_
    refine ex_ba1 oq_X12_lawOf_6 hT (k := 117) (d := 56) (j := ln) rfl rfl rfl (by omega) (by omega) (fun x101 hx101 lx101 ux101 => ?_)
    have hx101 : x101.toInt = 0 := hx101.symm.trans hTd
    refine ex_if0 oq_X12_lawOf_7 (t := 14) rfl rfl (fun (c102 : ¬ x101.toInt = 0) => ?_) (fun (c102 : ¬ (¬ x101.toInt = 0)) => ?_)
    · exfalso; omega
    · refine ex_ic oq_X12_lawOf_10 (m := 1) (by decide) (fun x103 hx103 => ?_)
      refine ex_go oq_X12_lawOf_11 (t := 15) rfl rfl ?_
      refine ex_pfb oq_X12_lawOf_15 hT (k := 111) (d := 12) rfl rfl rfl (by omega) (by omega) (fun h104 Th104 wh104 => ?_)
      have eh104_111_48 : ri_at h104 111 48 = x103.toInt := ri_self wh104
      have Eh104 : zE9 h0 h104 := zE9_8 zE9_0 (zE8_w wh104)
      refine ex_al oq_X12_lawOf_18 rfl ?_
      obtain ⟨x105, ax105, rx105, lx105, ux105⟩ := fi_isError Th104
      refine ex_gf oq_X12_lawOf_19 Th104 (k := 111) (d := 12) rfl rfl ax105 ?_
      have rx105 := (rx105.symm.trans eh104_111_48 : x105.toInt = x103.toInt)
      refine ex_if0 oq_X12_lawOf_22 (t := 27) rfl rfl (fun (c106 : x105.toInt = 0) => ?_) (fun (c106 : ¬ (x105.toInt = 0)) => ?_)
      · exfalso; omega
      · refine ex_lc oq_X12_lawOf_25 (m := 0) (by decide) (fun x107 hx107 => ?_)
        exact ex_retl oq_X12_lawOf_26 rfl (hQ x107 h104 Th104 Eh104 (.inr ⟨by omega, rfl, by omega⟩))
  | some cs =>
    obtain ⟨hTd, hw, a, hA, hB, h64, hK⟩ := hL
    refine ex_al oq_X12_lawOf_0 rfl ?_
    refine ex_al oq_X12_lawOf_1 rfl ?_
    refine ex_gf oq_X12_lawOf_2 hT (k := 111) (d := 12) rfl rfl (fr_lawTold hT) ?_
    refine ex_il oq_X12_lawOf_5 rfl ?_
    refine ex_ba1 oq_X12_lawOf_6 hT (k := 117) (d := 56) (j := ln) rfl rfl rfl (by omega) (by omega) (fun x101 hx101 lx101 ux101 => ?_)
    have hx101 : x101.toInt = 1 := hx101.symm.trans hTd
    refine ex_if0 oq_X12_lawOf_7 (t := 14) rfl rfl (fun (c102 : ¬ x101.toInt = 0) => ?_) (fun (c102 : ¬ (¬ x101.toInt = 0)) => ?_)
    · refine ex_ic oq_X12_lawOf_14 (m := 0) (by decide) (fun x103 hx103 => ?_)
      refine ex_pfb oq_X12_lawOf_15 hT (k := 111) (d := 12) rfl rfl rfl (by omega) (by omega) (fun h104 Th104 wh104 => ?_)
      have eh104_111_48 : ri_at h104 111 48 = x103.toInt := ri_self wh104
      have Eh104 : zE9 h0 h104 := zE9_8 zE9_0 (zE8_w wh104)
      have Ah104 : ri_at h104 115 ln = (a : Int) := (ri_ne wh104 (.inl (by decide))).trans hA
      refine ex_al oq_X12_lawOf_18 rfl ?_
      obtain ⟨x105, ax105, rx105, lx105, ux105⟩ := fi_isError Th104
      refine ex_gf oq_X12_lawOf_19 Th104 (k := 111) (d := 12) rfl rfl ax105 ?_
      have rx105 := (rx105.symm.trans eh104_111_48 : x105.toInt = x103.toInt)
      refine ex_if0 oq_X12_lawOf_22 (t := 27) rfl rfl (fun (c106 : x105.toInt = 0) => ?_) (fun (c106 : ¬ (x105.toInt = 0)) => ?_)
      · refine ex_al oq_X12_lawOf_27 rfl ?_
        refine ex_gf oq_X12_lawOf_28 Th104 (k := 111) (d := 12) rfl rfl (fr_lawFirst Th104) ?_
        refine ex_il oq_X12_lawOf_31 rfl ?_
        refine ex_ia1 oq_X12_lawOf_32 Th104 (k := 115) (d := 54) (j := ln) rfl rfl (by omega) (by omega) (fun x107 hx107 lx107 ux107 => ?_)
        have hx107 := (hx107.symm.trans Ah104 : x107.toInt = (a : Int))
        refine ex_isA oq_X12_lawOf_33 (fun L108 gL108_2 kL108 => ?_)
        have gL108_0 : cv_get L108 0 = some (cv_r 111) := kL108 0 _ (by decide) (fun q => absurd q (by decide)) rfl
        have gL108_1 : cv_get L108 1 = some (cv_i l) := kL108 1 _ (by decide) (fun _ => rfl) rfl
        exact lo_lp hl hl4 hA hB h64 hw.1 hw.2.1 (hw.2.2.2 N) hN hNb hQ cs [] (fun j => rl_at h104 133 j) x107 h104 L108 0 rfl hK (fun v hv => absurd hv (by simp [zkS])) (fun j _ => rfl) (fun j q q2 => absurd q2 (by rw [List.length_nil]; omega)) (.inl ⟨rfl, rfl⟩) (by omega) (by rw [List.length_nil]; omega) Th104 Eh104 gL108_0 gL108_1 gL108_2
      · exfalso; omega
    · exfalso; omega
end GN
end
section
/-! ===== a week of a gate: the reference ===== -/
theorem gK_1 {v : Int} (h : v < 0) : gCl (some v) = 0 := by
  show (if v < 0 then (0 : Int) else if 9999 < v then 9999 else v) = _
  rw [if_pos h]
theorem gK_2 {v : Int} (h : ¬ v < 0) (h2 : 9999 < v) : gCl (some v) = 9999 := by
  show (if v < 0 then (0 : Int) else if 9999 < v then 9999 else v) = _
  rw [if_neg h, if_pos h2]
theorem gK_3 {v : Int} (h : ¬ v < 0) (h2 : ¬ 9999 < v) : gCl (some v) = v := by
  show (if v < 0 then (0 : Int) else if 9999 < v then 9999 else v) = _
  rw [if_neg h, if_neg h2]
theorem gK_o {o : Option Int} {y e : Int} (d : e = 0 ∧ o = some y ∨ e = 1 ∧ o = none ∧ y = 0) : gCl (some y) = gCl o := by
  rcases d with ⟨_, d⟩ | ⟨_, d, q⟩
  · rw [d]
  · rw [d, q]
    rfl
/-- what putting a law's growth down may change -/
def zW4 (h h' : cv_H) : Prop := (∀ k : Nat, k ≠ 111 → k ≠ 133 → k ≠ 134 → h'[k]? = h[k]?) ∧ ∀ i, i ≠ 48 → cw_at h' 111 i = cw_at h 111 i
theorem zW4_ri {h h' : cv_H} {k i : Nat} (a : zW4 h h') (p : k ≠ 111) (q : k ≠ 133) (r : k ≠ 134) : ri_at h' k i = ri_at h k i := ri_eq (by unfold cw_at; rw [a.1 k p q r])
theorem zW4_rl {h h' : cv_H} {k i : Nat} (a : zW4 h h') (p : k ≠ 111) (q : k ≠ 133) (r : k ≠ 134) : rl_at h' k i = rl_at h k i := rl_eq (by unfold cw_at; rw [a.1 k p q r])
theorem zW4_tr {h h' h'' : cv_H} (a : zW4 h h') (b : zW4 h' h'') : zW4 h h'' := ⟨fun k p q r => (b.1 k p q r).trans (a.1 k p q r), fun i q => (b.2 i q).trans (a.2 i q)⟩
theorem zW4_9 {h h' h'' : cv_H} {j : Nat} {v : cv_V} (a : zE9 h h') (w : cw_Wr h' h'' 134 j v) : zW4 h h'' := ⟨fun k p q r => (w.2.2 k r).trans (a.1 k p q), fun i q => (w.2.1 111 i (.inl (by decide))).trans (a.2 i q)⟩
/-- what a gate's week may change -/
def zW6 (h h' : cv_H) : Prop := (∀ k : Nat, k ≠ 111 → k ≠ 131 → k ≠ 132 → k ≠ 133 → k ≠ 134 → h'[k]? = h[k]?) ∧ ∀ i, i ≠ 48 → cw_at h' 111 i = cw_at h 111 i
theorem zW6_0 {h : cv_H} : zW6 h h := ⟨fun _ _ _ _ _ _ => rfl, fun _ _ => rfl⟩
theorem zW6_tr {h h' h'' : cv_H} (a : zW6 h h') (b : zW6 h' h'') : zW6 h h'' := ⟨fun k p q r s t => (b.1 k p q r s t).trans (a.1 k p q r s t), fun i q => (b.2 i q).trans (a.2 i q)⟩
theorem zW6_c {h h' : cv_H} {R : Nat} (c : cp_F R h h') (hR : R = 131 ∨ R = 132 ∨ R = 134) : zW6 h h' := by
  refine ⟨fun k p q r s t => c k (by omega), fun i _ => ?_⟩
  unfold cw_at
  rw [c 111 (by omega)]
theorem zW6_4 {h h' : cv_H} (a : zW4 h h') : zW6 h h' := ⟨fun k p _ _ s t => a.1 k p s t, a.2⟩
theorem zW6_ri {h h' : cv_H} {k i : Nat} (a : zW6 h h') (p : k ≠ 111) (q : k ≠ 131) (r : k ≠ 132) (s : k ≠ 133) (t : k ≠ 134) : ri_at h' k i = ri_at h k i := ri_eq (by unfold cw_at; rw [a.1 k p q r s t])
theorem zMs_1 {dk dv : List Int} {S : Nat} {kind : Int} {c : Nat} (h : S.testBit c = true ∧ dk.getD c 0 = kind) : zMs dk dv S kind (c + 1) = zMs dk dv S kind c + dv.getD c 0 := by
  show _ + (if _ then _ else _) = _
  rw [if_pos h]
theorem zMs_2 {dk dv : List Int} {S : Nat} {kind : Int} {c : Nat} (h : ¬ (S.testBit c = true ∧ dk.getD c 0 = kind)) : zMs dk dv S kind (c + 1) = zMs dk dv S kind c := by
  show _ + (if _ then _ else _) = _
  rw [if_neg h]
  omega
section GN
variable {G : Int} {X : cv_X} {Q : cv_O → Prop} {h0 h : cv_H}
theorem oq_X12_goes_26 : cw_ho 214 26 (.lload 4) 2 0 0 0 := rfl
theorem oq_X12_goes_28 : cw_ho 214 28 (.lconst 0) 1 0 0 0 := rfl
theorem oq_X12_goes_29 : cw_ho 214 29 (.lcmp) 1 0 0 0 := rfl
theorem oq_X12_goes_30 : cw_ho 214 30 (.ifCond .ge 7) 3 0 0 0 := rfl
theorem oq_X12_goes_33 : cw_ho 214 33 (.lconst 0) 1 0 0 0 := rfl
theorem oq_X12_goes_34 : cw_ho 214 34 (.goto 20) 3 0 0 0 := rfl
theorem oq_X12_goes_37 : cw_ho 214 37 (.lload 4) 2 0 0 0 := rfl
theorem oq_X12_goes_39 : cw_ho 214 39 (.ldc2_w 399) 3 0 0 9999 := rfl
theorem oq_X12_goes_42 : cw_ho 214 42 (.lcmp) 1 0 0 0 := rfl
theorem oq_X12_goes_43 : cw_ho 214 43 (.ifCond .le 9) 3 0 0 0 := rfl
theorem oq_X12_goes_46 : cw_ho 214 46 (.ldc2_w 399) 3 0 0 9999 := rfl
theorem oq_X12_goes_49 : cw_ho 214 49 (.goto 5) 3 0 0 0 := rfl
theorem oq_X12_goes_52 : cw_ho 214 52 (.lload 4) 2 0 0 0 := rfl
theorem go_c1 {v : Int64} {l : Int32} {L : cv_L} (g4 : cv_get L 4 = some (cv_l v)) (hk : ∀ x : Int64, x.toInt = gCl (some v.toInt) → cw_X X 214 Q 54 L [cv_l x, cv_i l, cv_r 134] h) : cw_X X 214 Q 26 L [cv_i l, cv_r 134] h := by
  refine ex_llw oq_X12_goes_26 g4 ?_
  refine ex_lc oq_X12_goes_28 (m := 0) (by decide) (fun x101 hx101 => ?_)
  refine ex_lcmpV oq_X12_goes_29 (fun x102 hx102 => ?_)
  refine ex_if0 oq_X12_goes_30 (t := 37) rfl rfl (fun (c103 : 0 ≤ x102.toInt) => ?_) (fun (c103 : ¬ (0 ≤ x102.toInt)) => ?_)
  · refine ex_llw oq_X12_goes_37 g4 ?_
    refine ex_ldc2V oq_X12_goes_39 (m := 9999) (by decide) (fun x104 hx104 => ?_)
    refine ex_lcmpV oq_X12_goes_42 (fun x105 hx105 => ?_)
    refine ex_if0 oq_X12_goes_43 (t := 52) rfl rfl (fun (c106 : x105.toInt ≤ 0) => ?_) (fun (c106 : ¬ (x105.toInt ≤ 0)) => ?_)
    · refine ex_llw oq_X12_goes_52 g4 ?_
      exact hk v (by have q := gK_3 (v := v.toInt) (by omega) (by omega); omega)
    · refine ex_ldc2V oq_X12_goes_46 (m := 9999) (by decide) (fun x107 hx107 => ?_)
      refine ex_go oq_X12_goes_49 (t := 54) rfl rfl ?_
      exact hk x107 (by have q := gK_2 (v := v.toInt) (by omega) (by omega); omega)
  · refine ex_lc oq_X12_goes_33 (m := 0) (by decide) (fun x108 hx108 => ?_)
    refine ex_go oq_X12_goes_34 (t := 54) rfl rfl ?_
    exact hk x108 (by have q := gK_1 (v := v.toInt) (by omega); omega)
theorem oq_X12_goes_9 : cw_ho 214 9 (.iload_n 3) 1 0 0 0 := rfl
theorem oq_X12_goes_10 : cw_ho 214 10 (.iconst 3) 1 0 0 0 := rfl
theorem oq_X12_goes_11 : cw_ho 214 11 (.if_icmp .ge 50) 3 0 0 0 := rfl
theorem oq_X12_goes_14 : cw_ho 214 14 (.aload_n 0) 1 0 0 0 := rfl
theorem oq_X12_goes_15 : cw_ho 214 15 (.iload_n 3) 1 0 0 0 := rfl
theorem oq_X12_goes_16 : cw_ho 214 16 (.invokevirtual 396) 3 213 1 12 := rfl
theorem oq_X12_goes_19 : cw_ho 214 19 (.lstore 4) 2 0 0 0 := rfl
theorem oq_X12_goes_21 : cw_ho 214 21 (.aload_n 0) 1 0 0 0 := rfl
theorem oq_X12_goes_22 : cw_ho 214 22 (.getfield 82) 3 12 49 4 := rfl
theorem oq_X12_goes_25 : cw_ho 214 25 (.iload_n 3) 1 0 0 0 := rfl
theorem oq_X12_goes_54 : cw_ho 214 54 (.lastore) 1 0 0 0 := rfl
theorem oq_X12_goes_55 : cw_ho 214 55 (.iinc 3 1) 3 0 0 0 := rfl
theorem oq_X12_goes_58 : cw_ho 214 58 (.goto (-49)) 3 0 0 0 := rfl
theorem go_it (hT : cw_T G h) {l g w : Int32} {ln : Nat} (hl : l.toInt = ln) (hl3 : ln < 3) {oo : Option (List Int)} (hL : zRL h ln oo) {N : Nat → Int} (hN : ∀ j, j < 10 → rl_at h 132 j = N j) (hNb : ∀ j, zbb (N j)) {L : cv_L} (g0 : cv_get L 0 = some (cv_r 111)) (g1 : cv_get L 1 = some (cv_i g)) (g2 : cv_get L 2 = some (cv_i w)) (g3 : cv_get L 3 = some (cv_i l)) (hk : ∀ (h' : cv_H) (L' : cv_L) (l' : Int32), cw_T G h' → zW4 h h' → rl_at h' 134 ln = gLw oo N → (∀ i, i ≠ ln → rl_at h' 134 i = rl_at h 134 i) → l'.toInt = ((ln + 1 : Nat) : Int) → cv_get L' 0 = some (cv_r 111) → cv_get L' 1 = some (cv_i g) → cv_get L' 2 = some (cv_i w) → cv_get L' 3 = some (cv_i l') → cw_X X 214 Q 9 L' [] h') : cw_X X 214 Q 9 L [] h := by
  refine ex_il oq_X12_goes_9 g3 ?_
  refine ex_ic oq_X12_goes_10 (m := 3) (by decide) (fun x101 hx101 => ?_)
  refine ex_if oq_X12_goes_11 (t := 61) rfl rfl (fun (c102 : x101.toInt ≤ l.toInt) => ?_) (fun (c102 : ¬ (x101.toInt ≤ l.toInt)) => ?_)
  · exfalso; omega
  · refine ex_al oq_X12_goes_14 g0 ?_
    refine ex_il oq_X12_goes_15 g3 ?_
    refine ex_cv oq_X12_goes_16 (by decide) hT (k := 111) (d := 12) (as := [cv_i l]) (stk := []) rfl rfl rfl rfl rfl rfl ⟨rfl, rfl⟩ (R := fun o => ∃ (y : Int64) (hb : cv_H), o = (some (cv_l y), hb) ∧ cw_T G hb ∧ zE9 h hb ∧ (ri_at hb 111 48 = 0 ∧ zLo oo N = some y.toInt ∨ ri_at hb 111 48 = 1 ∧ zLo oo N = none ∧ y.toInt = 0)) (rl_lawOf hT hl (by omega) hL hN hNb (fun y hb b1 b2 b3 => ⟨y, hb, rfl, b1, b2, b3⟩)) (fun o ho => ?_)
    obtain ⟨x103, h104, rfl, Th104, zh104, dx103⟩ := ho
    show cw_X _ _ _ _ _ [cv_l x103] h104
    refine ex_lswA oq_X12_goes_19 (fun L105 gL105_4 kL105 => ?_)
    have gL105_0 : cv_get L105 0 = some (cv_r 111) := kL105 0 _ (by decide) (by decide) (fun q => absurd q (by decide)) g0
    have gL105_1 : cv_get L105 1 = some (cv_i g) := kL105 1 _ (by decide) (by decide) (fun q => absurd q (by decide)) g1
    have gL105_2 : cv_get L105 2 = some (cv_i w) := kL105 2 _ (by decide) (by decide) (fun q => absurd q (by decide)) g2
    have gL105_3 : cv_get L105 3 = some (cv_i l) := kL105 3 _ (by decide) (by decide) (fun _ => rfl) g3
    refine ex_al oq_X12_goes_21 gL105_0 ?_
    refine ex_gf oq_X12_goes_22 Th104 (k := 111) (d := 12) rfl rfl (fr_grows Th104) ?_
    refine ex_il oq_X12_goes_25 gL105_3 ?_
    refine go_c1 gL105_4 (fun x106 hx106 => ?_)
    refine ex_lw oq_X12_goes_54 Th104 (k := 134) (d := 73) (j := ln) rfl rfl (by omega) (by omega) (fun h107 Th107 wh107 => ?_)
    refine ex_incA oq_X12_goes_55 (v := l) (m := 1) gL105_3 (by decide) (by omega) (fun L109 x108 hx108 gL109_3 kL109 => ?_)
    have gL109_4 : cv_get L109 4 = some (cv_l x103) := kL109 4 _ (by decide) (fun q => absurd q (by decide)) gL105_4
    have gL109_0 : cv_get L109 0 = some (cv_r 111) := kL109 0 _ (by decide) (fun q => absurd q (by decide)) gL105_0
    have gL109_1 : cv_get L109 1 = some (cv_i g) := kL109 1 _ (by decide) (fun q => absurd q (by decide)) gL105_1
    have gL109_2 : cv_get L109 2 = some (cv_i w) := kL109 2 _ (by decide) (fun _ => rfl) gL105_2
    refine ex_go oq_X12_goes_58 (t := 9) rfl rfl ?_
    exact hk h107 L109 x108 Th107 (zW4_9 zh104 wh107) ((rl_self wh107).trans (by rw [gLw_o, ← gK_o dx103]; exact hx106)) (fun i hi => (rl_ne wh107 (.inr hi)).trans (zE9_rl zh104 (by decide) (by decide))) (by omega) gL109_0 gL109_1 gL109_2 gL109_3
theorem oq_X12_goes_63 : cw_ho 214 63 (.iload_n 3) 1 0 0 0 := rfl
theorem oq_X12_goes_64 : cw_ho 214 64 (.aload_n 0) 1 0 0 0 := rfl
theorem oq_X12_goes_65 : cw_ho 214 65 (.getfield 222) 3 12 14 0 := rfl
theorem oq_X12_goes_68 : cw_ho 214 68 (.if_icmp .ge 52) 3 0 0 0 := rfl
theorem oq_X12_goes_71 : cw_ho 214 71 (.aload_n 0) 1 0 0 0 := rfl
theorem oq_X12_goes_72 : cw_ho 214 72 (.getfield 72) 3 12 45 4 := rfl
theorem oq_X12_goes_75 : cw_ho 214 75 (.bipush 10) 2 0 0 0 := rfl
theorem oq_X12_goes_77 : cw_ho 214 77 (.iaload) 1 0 0 0 := rfl
theorem oq_X12_goes_78 : cw_ho 214 78 (.iload_n 3) 1 0 0 0 := rfl
theorem oq_X12_goes_79 : cw_ho 214 79 (.invokestatic 272) 3 157 2 0 := rfl
theorem oq_X12_goes_82 : cw_ho 214 82 (.ifCond .eq 32) 3 0 0 0 := rfl
theorem oq_X12_goes_85 : cw_ho 214 85 (.aload_n 0) 1 0 0 0 := rfl
theorem oq_X12_goes_86 : cw_ho 214 86 (.getfield 82) 3 12 49 4 := rfl
theorem oq_X12_goes_89 : cw_ho 214 89 (.aload_n 0) 1 0 0 0 := rfl
theorem oq_X12_goes_90 : cw_ho 214 90 (.getfield 51) 3 12 31 4 := rfl
theorem oq_X12_goes_93 : cw_ho 214 93 (.iconst 3) 1 0 0 0 := rfl
theorem oq_X12_goes_94 : cw_ho 214 94 (.iload_n 3) 1 0 0 0 := rfl
theorem oq_X12_goes_95 : cw_ho 214 95 (.imul) 1 0 0 0 := rfl
theorem oq_X12_goes_96 : cw_ho 214 96 (.iconst 1) 1 0 0 0 := rfl
theorem oq_X12_goes_97 : cw_ho 214 97 (.iadd) 1 0 0 0 := rfl
theorem oq_X12_goes_98 : cw_ho 214 98 (.iaload) 1 0 0 0 := rfl
theorem oq_X12_goes_99 : cw_ho 214 99 (.dup2) 1 0 0 0 := rfl
theorem oq_X12_goes_100 : cw_ho 214 100 (.laload) 1 0 0 0 := rfl
theorem oq_X12_goes_101 : cw_ho 214 101 (.aload_n 0) 1 0 0 0 := rfl
theorem oq_X12_goes_102 : cw_ho 214 102 (.getfield 51) 3 12 31 4 := rfl
theorem oq_X12_goes_105 : cw_ho 214 105 (.iconst 3) 1 0 0 0 := rfl
theorem oq_X12_goes_106 : cw_ho 214 106 (.iload_n 3) 1 0 0 0 := rfl
theorem oq_X12_goes_107 : cw_ho 214 107 (.imul) 1 0 0 0 := rfl
theorem oq_X12_goes_108 : cw_ho 214 108 (.iconst 2) 1 0 0 0 := rfl
theorem oq_X12_goes_109 : cw_ho 214 109 (.iadd) 1 0 0 0 := rfl
theorem oq_X12_goes_110 : cw_ho 214 110 (.iaload) 1 0 0 0 := rfl
theorem oq_X12_goes_111 : cw_ho 214 111 (.i2l) 1 0 0 0 := rfl
theorem oq_X12_goes_112 : cw_ho 214 112 (.ladd) 1 0 0 0 := rfl
theorem oq_X12_goes_113 : cw_ho 214 113 (.lastore) 1 0 0 0 := rfl
theorem oq_X12_goes_114 : cw_ho 214 114 (.iinc 3 1) 3 0 0 0 := rfl
theorem oq_X12_goes_117 : cw_ho 214 117 (.goto (-54)) 3 0 0 0 := rfl
theorem go_cs {n : Nat} (hn : ri_at h0 111 14 = n) (hn6 : n ≤ 6) {dk dv : List Int} (d1 : ∀ c, c < n → ri_at h0 124 (3 * c + 1) = dk.getD c 0) (d2 : ∀ c, c < n → ri_at h0 124 (3 * c + 2) = dv.getD c 0) (hv : ∀ c, 0 ≤ dv.getD c 0 ∧ dv.getD c 0 ≤ 999) (hkd : ∀ c, c < n → 0 ≤ dk.getD c 0 ∧ dk.getD c 0 ≤ 2) {S : Nat} (hS : ri_at h0 131 10 = S) (hS64 : S < 64) {A : Nat → Int} (hA : ∀ k, 0 ≤ A k ∧ A k ≤ 9999) {g w : Int32} (hk : ∀ (h' : cv_H) (L' : cv_L), cw_T G h' → cp_F 134 h0 h' → (∀ k : Nat, k < 3 → rl_at h' 134 k = A k + zMs dk dv S (k : Int) n) → cv_get L' 0 = some (cv_r 111) → cv_get L' 1 = some (cv_i g) → cv_get L' 2 = some (cv_i w) → cw_X X 214 Q 120 L' [] h') : ∀ (f c : Nat) (C : Int32) (h : cv_H) (L : cv_L), n - c = f → c ≤ n → C.toInt = c → cw_T G h → cp_F 134 h0 h → (∀ k : Nat, k < 3 → rl_at h 134 k = A k + zMs dk dv S (k : Int) c) → cv_get L 0 = some (cv_r 111) → cv_get L 1 = some (cv_i g) → cv_get L 2 = some (cv_i w) → cv_get L 3 = some (cv_i C) → cw_X X 214 Q 63 L [] h := by
  intro f
  induction f with
  | zero =>
    intro c C h L hf hcn hC hT hF hV g0 g1 g2 g3
    refine ex_il oq_X12_goes_63 g3 ?_
    refine ex_al oq_X12_goes_64 g0 ?_
    obtain ⟨x101, ax101, rx101, lx101, ux101⟩ := fi_causes hT
    refine ex_gf oq_X12_goes_65 hT (k := 111) (d := 12) rfl rfl ax101 ?_
    have rx101 := (rx101.symm.trans ((ri_eq (cp_at hF (by decide))).trans hn) : x101.toInt = (n : Int))
    refine ex_if oq_X12_goes_68 (t := 120) rfl rfl (fun (c102 : x101.toInt ≤ C.toInt) => ?_) (fun (c102 : ¬ (x101.toInt ≤ C.toInt)) => ?_)
    · exact hk h L hT hF (fun k q => by rw [hV k q, show c = n from by omega]) g0 g1 g2
    · exfalso; omega
  | succ f ih =>
    intro c C h L hf hcn hC hT hF hV g0 g1 g2 g3
    have mb := zMs_b (dk := dk) (S := S) (kind := (((dk.getD c 0).toNat : Nat) : Int)) hv c
    have hv1 := hv c
    have hk1 := hkd c (by omega)
    have hA1 := hA (dk.getD c 0).toNat
    refine ex_il oq_X12_goes_63 g3 ?_
    refine ex_al oq_X12_goes_64 g0 ?_
    obtain ⟨x101, ax101, rx101, lx101, ux101⟩ := fi_causes hT
    refine ex_gf oq_X12_goes_65 hT (k := 111) (d := 12) rfl rfl ax101 ?_
    have rx101 := (rx101.symm.trans ((ri_eq (cp_at hF (by decide))).trans hn) : x101.toInt = (n : Int))
    refine ex_if oq_X12_goes_68 (t := 120) rfl rfl (fun (c102 : x101.toInt ≤ C.toInt) => ?_) (fun (c102 : ¬ (x101.toInt ≤ C.toInt)) => ?_)
    · exfalso; omega
    · refine ex_al oq_X12_goes_71 g0 ?_
      refine ex_gf oq_X12_goes_72 hT (k := 111) (d := 12) rfl rfl (fr_now hT) ?_
      refine ex_bi oq_X12_goes_75 (m := 10) (by decide) (fun x103 hx103 => ?_)
      refine ex_ia1 oq_X12_goes_77 hT (k := 131) (d := 70) (j := 10) rfl rfl (by omega) (by omega) (fun x104 hx104 lx104 ux104 => ?_)
      have hx104 := (hx104.symm.trans ((cp_ri hF (by decide)).trans hS) : x104.toInt = (S : Int))
      refine ex_il oq_X12_goes_78 g3 ?_
      refine ex_cs oq_X12_goes_79 (by decide) (as := [cv_i x104, cv_i C]) (stk := []) rfl rfl rfl ⟨rfl, rfl⟩ (R := fun o => ∃ y : Int32, o = (some (cv_i y), h) ∧ (y.toInt = 1 ∧ S.testBit c = true ∨ y.toInt = 0 ∧ ¬ S.testBit c = true)) (rt_isOf (m := S) (j := c) (by omega) (by omega) (by omega) (by omega) (fun y q => ⟨y, rfl, q⟩)) (fun o ho => ?_)
      obtain ⟨x105, rfl, dx105⟩ := ho
      show cw_X _ _ _ _ _ [cv_i x105] h
      refine ex_if0 oq_X12_goes_82 (t := 114) rfl rfl (fun (c106 : x105.toInt = 0) => ?_) (fun (c106 : ¬ (x105.toInt = 0)) => ?_)
      · have hb : ¬ S.testBit c = true := by
          rcases dx105 with q | q
          · exfalso; omega
          · exact q.2
        clear dx105
        refine ex_incA oq_X12_goes_114 (v := C) (m := 1) g3 (by decide) (by omega) (fun L108 x107 hx107 gL108_3 kL108 => ?_)
        have gL108_0 : cv_get L108 0 = some (cv_r 111) := kL108 0 _ (by decide) (fun q => absurd q (by decide)) g0
        have gL108_1 : cv_get L108 1 = some (cv_i g) := kL108 1 _ (by decide) (fun q => absurd q (by decide)) g1
        have gL108_2 : cv_get L108 2 = some (cv_i w) := kL108 2 _ (by decide) (fun _ => rfl) g2
        refine ex_go oq_X12_goes_117 (t := 63) rfl rfl ?_
        exact ih (c + 1) x107 h L108 (by omega) (by omega) (by omega) hT hF (fun k q => by rw [hV k q, zMs_2 (fun z => hb z.1)]) gL108_0 gL108_1 gL108_2 gL108_3
      · have hb : S.testBit c = true := by
          rcases dx105 with q | q
          · exact q.2
          · exfalso; omega
        clear dx105
        refine ex_al oq_X12_goes_85 g0 ?_
        refine ex_gf oq_X12_goes_86 hT (k := 111) (d := 12) rfl rfl (fr_grows hT) ?_
        refine ex_al oq_X12_goes_89 g0 ?_
        refine ex_gf oq_X12_goes_90 hT (k := 111) (d := 12) rfl rfl (fr_causeHas hT) ?_
        refine ex_ic oq_X12_goes_93 (m := 3) (by decide) (fun x109 hx109 => ?_)
        refine ex_il oq_X12_goes_94 g3 ?_
        refine ex_mul oq_X12_goes_95 (m := 3 * C.toInt) (by rw [hx109]) (by omega) (fun x110 hx110 => ?_)
        refine ex_ic oq_X12_goes_96 (m := 1) (by decide) (fun x111 hx111 => ?_)
        refine ex_add oq_X12_goes_97 (by omega) (fun x112 hx112 => ?_)
        refine ex_iap oq_X12_goes_98 hT (k := 124) (d := 63) (j := 3 * c + 1) rfl rfl (by omega) (by omega) (fun x113 hx113 => ?_)
        have hx113 := (hx113.symm.trans ((cp_ri hF (by decide)).trans (d1 c (by omega))) : x113.toInt = dk.getD c 0)
        refine ex_dup2 oq_X12_goes_99 rfl rfl ?_
        refine ex_laV oq_X12_goes_100 hT (k := 134) (d := 73) (j := (dk.getD c 0).toNat) rfl rfl (by omega) (by omega) (fun x114 hx114 => ?_)
        replace hx114 : x114.toInt = (A (dk.getD c 0).toNat + zMs dk dv S (((dk.getD c 0).toNat : Nat) : Int) c) := hx114.symm.trans (hV _ (by omega))
        refine ex_al oq_X12_goes_101 g0 ?_
        refine ex_gf oq_X12_goes_102 hT (k := 111) (d := 12) rfl rfl (fr_causeHas hT) ?_
        refine ex_ic oq_X12_goes_105 (m := 3) (by decide) (fun x115 hx115 => ?_)
        refine ex_il oq_X12_goes_106 g3 ?_
        refine ex_mul oq_X12_goes_107 (m := 3 * C.toInt) (by rw [hx115]) (by omega) (fun x116 hx116 => ?_)
        refine ex_ic oq_X12_goes_108 (m := 2) (by decide) (fun x117 hx117 => ?_)
        refine ex_add oq_X12_goes_109 (by omega) (fun x118 hx118 => ?_)
        refine ex_iap oq_X12_goes_110 hT (k := 124) (d := 63) (j := 3 * c + 2) rfl rfl (by omega) (by omega) (fun x119 hx119 => ?_)
        have hx119 := (hx119.symm.trans ((cp_ri hF (by decide)).trans (d2 c (by omega))) : x119.toInt = dv.getD c 0)
        refine ex_i2l oq_X12_goes_111 (fun x120 hx120 => ?_)
        refine ex_laddV oq_X12_goes_112 (by omega) (fun x121 hx121 => ?_)
        refine ex_lw oq_X12_goes_113 hT (k := 134) (d := 73) (j := (dk.getD c 0).toNat) rfl rfl (by omega) (by omega) (fun h122 Th122 wh122 => ?_)
        have eh122_111_14 : ri_at h122 111 14 = (n : Int) := (ri_ne wh122 (.inl (by decide))).trans ((ri_eq (cp_at hF (by decide))).trans hn)
        refine ex_incA oq_X12_goes_114 (v := C) (m := 1) g3 (by decide) (by omega) (fun L124 x123 hx123 gL124_3 kL124 => ?_)
        have gL124_0 : cv_get L124 0 = some (cv_r 111) := kL124 0 _ (by decide) (fun q => absurd q (by decide)) g0
        have gL124_1 : cv_get L124 1 = some (cv_i g) := kL124 1 _ (by decide) (fun q => absurd q (by decide)) g1
        have gL124_2 : cv_get L124 2 = some (cv_i w) := kL124 2 _ (by decide) (fun _ => rfl) g2
        refine ex_go oq_X12_goes_117 (t := 63) rfl rfl ?_
        refine ih (c + 1) x123 h122 L124 (by omega) (by omega) (by omega) Th122 (cp_w wh122 hF) (fun k q => ?_) gL124_0 gL124_1 gL124_2 gL124_3
        by_cases ck : k = (dk.getD c 0).toNat
        · rw [ck, rl_self wh122, zMs_1 ⟨hb, by omega⟩]
          omega
        · rw [rl_ne wh122 (.inr ck), hV k q, zMs_2 (fun z => by have := z.2; omega)]
theorem oq_X12_goes_148 : cw_ho 214 148 (.lload 4) 2 0 0 0 := rfl
theorem oq_X12_goes_150 : cw_ho 214 150 (.ldc2_w 401) 3 0 0 1000000 := rfl
theorem oq_X12_goes_153 : cw_ho 214 153 (.lcmp) 1 0 0 0 := rfl
theorem oq_X12_goes_154 : cw_ho 214 154 (.ifCond .le 9) 3 0 0 0 := rfl
theorem oq_X12_goes_157 : cw_ho 214 157 (.ldc2_w 401) 3 0 0 1000000 := rfl
theorem oq_X12_goes_160 : cw_ho 214 160 (.goto 5) 3 0 0 0 := rfl
theorem oq_X12_goes_163 : cw_ho 214 163 (.lload 4) 2 0 0 0 := rfl
theorem go_c3 {v : Int64} {l : Int32} {L : cv_L} (g4 : cv_get L 4 = some (cv_l v)) (hk : ∀ x : Int64, x.toInt = min 1000000 v.toInt → cw_X X 214 Q 165 L [cv_l x, cv_i l, cv_r 131] h) : cw_X X 214 Q 148 L [cv_i l, cv_r 131] h := by
  refine ex_llw oq_X12_goes_148 g4 ?_
  refine ex_ldc2V oq_X12_goes_150 (m := 1000000) (by decide) (fun x101 hx101 => ?_)
  refine ex_lcmpV oq_X12_goes_153 (fun x102 hx102 => ?_)
  refine ex_if0 oq_X12_goes_154 (t := 163) rfl rfl (fun (c103 : x102.toInt ≤ 0) => ?_) (fun (c103 : ¬ (x102.toInt ≤ 0)) => ?_)
  · refine ex_llw oq_X12_goes_163 g4 ?_
    exact hk v (by omega)
  · refine ex_ldc2V oq_X12_goes_157 (m := 1000000) (by decide) (fun x104 hx104 => ?_)
    refine ex_go oq_X12_goes_160 (t := 165) rfl rfl ?_
    exact hk x104 (by omega)
theorem oq_X12_goes_122 : cw_ho 214 122 (.iload_n 3) 1 0 0 0 := rfl
theorem oq_X12_goes_123 : cw_ho 214 123 (.iconst 3) 1 0 0 0 := rfl
theorem oq_X12_goes_124 : cw_ho 214 124 (.if_icmp .ge 49) 3 0 0 0 := rfl
theorem oq_X12_goes_127 : cw_ho 214 127 (.aload_n 0) 1 0 0 0 := rfl
theorem oq_X12_goes_128 : cw_ho 214 128 (.getfield 72) 3 12 45 4 := rfl
theorem oq_X12_goes_131 : cw_ho 214 131 (.iload_n 3) 1 0 0 0 := rfl
theorem oq_X12_goes_132 : cw_ho 214 132 (.iaload) 1 0 0 0 := rfl
theorem oq_X12_goes_133 : cw_ho 214 133 (.i2l) 1 0 0 0 := rfl
theorem oq_X12_goes_134 : cw_ho 214 134 (.aload_n 0) 1 0 0 0 := rfl
theorem oq_X12_goes_135 : cw_ho 214 135 (.getfield 82) 3 12 49 4 := rfl
theorem oq_X12_goes_138 : cw_ho 214 138 (.iload_n 3) 1 0 0 0 := rfl
theorem oq_X12_goes_139 : cw_ho 214 139 (.laload) 1 0 0 0 := rfl
theorem oq_X12_goes_140 : cw_ho 214 140 (.ladd) 1 0 0 0 := rfl
theorem oq_X12_goes_141 : cw_ho 214 141 (.lstore 4) 2 0 0 0 := rfl
theorem oq_X12_goes_143 : cw_ho 214 143 (.aload_n 0) 1 0 0 0 := rfl
theorem oq_X12_goes_144 : cw_ho 214 144 (.getfield 72) 3 12 45 4 := rfl
theorem oq_X12_goes_147 : cw_ho 214 147 (.iload_n 3) 1 0 0 0 := rfl
theorem oq_X12_goes_165 : cw_ho 214 165 (.l2i) 1 0 0 0 := rfl
theorem oq_X12_goes_166 : cw_ho 214 166 (.iastore) 1 0 0 0 := rfl
theorem oq_X12_goes_167 : cw_ho 214 167 (.iinc 3 1) 3 0 0 0 := rfl
theorem oq_X12_goes_170 : cw_ho 214 170 (.goto (-48)) 3 0 0 0 := rfl
theorem go_i3 (hT : cw_T G h) {l g w : Int32} {ln : Nat} (hl : l.toInt = ln) (hl3 : ln < 3) {A B : Int} (ha : ri_at h 131 ln = A) (hb : rl_at h 134 ln = B) (hab : 0 ≤ A ∧ A ≤ 1000000 ∧ 0 ≤ B ∧ B ≤ 1000000) {L : cv_L} (g0 : cv_get L 0 = some (cv_r 111)) (g1 : cv_get L 1 = some (cv_i g)) (g2 : cv_get L 2 = some (cv_i w)) (g3 : cv_get L 3 = some (cv_i l)) (hk : ∀ (h' : cv_H) (L' : cv_L) (l' : Int32), cw_T G h' → cp_F 131 h h' → ri_at h' 131 ln = min 1000000 (A + B) → (∀ i, i ≠ ln → ri_at h' 131 i = ri_at h 131 i) → l'.toInt = ((ln + 1 : Nat) : Int) → cv_get L' 0 = some (cv_r 111) → cv_get L' 1 = some (cv_i g) → cv_get L' 2 = some (cv_i w) → cv_get L' 3 = some (cv_i l') → cw_X X 214 Q 122 L' [] h') : cw_X X 214 Q 122 L [] h := by
  refine ex_il oq_X12_goes_122 g3 ?_
  refine ex_ic oq_X12_goes_123 (m := 3) (by decide) (fun x101 hx101 => ?_)
  refine ex_if oq_X12_goes_124 (t := 173) rfl rfl (fun (c102 : x101.toInt ≤ l.toInt) => ?_) (fun (c102 : ¬ (x101.toInt ≤ l.toInt)) => ?_)
  · exfalso; omega
  · refine ex_al oq_X12_goes_127 g0 ?_
    refine ex_gf oq_X12_goes_128 hT (k := 111) (d := 12) rfl rfl (fr_now hT) ?_
    refine ex_il oq_X12_goes_131 g3 ?_
    refine ex_ia1 oq_X12_goes_132 hT (k := 131) (d := 70) (j := ln) rfl rfl (by omega) (by omega) (fun x103 hx103 lx103 ux103 => ?_)
    have hx103 := (hx103.symm.trans ha : x103.toInt = A)
    refine ex_i2l oq_X12_goes_133 (fun x104 hx104 => ?_)
    refine ex_al oq_X12_goes_134 g0 ?_
    refine ex_gf oq_X12_goes_135 hT (k := 111) (d := 12) rfl rfl (fr_grows hT) ?_
    refine ex_il oq_X12_goes_138 g3 ?_
    refine ex_laV oq_X12_goes_139 hT (k := 134) (d := 73) (j := ln) rfl rfl (by omega) (by omega) (fun x105 hx105 => ?_)
    replace hx105 : x105.toInt = B := hx105.symm.trans (hb)
    refine ex_laddV oq_X12_goes_140 (by omega) (fun x106 hx106 => ?_)
    refine ex_lswA oq_X12_goes_141 (fun L107 gL107_4 kL107 => ?_)
    have gL107_0 : cv_get L107 0 = some (cv_r 111) := kL107 0 _ (by decide) (by decide) (fun q => absurd q (by decide)) g0
    have gL107_1 : cv_get L107 1 = some (cv_i g) := kL107 1 _ (by decide) (by decide) (fun q => absurd q (by decide)) g1
    have gL107_2 : cv_get L107 2 = some (cv_i w) := kL107 2 _ (by decide) (by decide) (fun q => absurd q (by decide)) g2
    have gL107_3 : cv_get L107 3 = some (cv_i l) := kL107 3 _ (by decide) (by decide) (fun _ => rfl) g3
    refine ex_al oq_X12_goes_143 gL107_0 ?_
    refine ex_gf oq_X12_goes_144 hT (k := 111) (d := 12) rfl rfl (fr_now hT) ?_
    refine ex_il oq_X12_goes_147 gL107_3 ?_
    refine go_c3 gL107_4 (fun x108 hx108 => ?_)
    refine ex_l2iV oq_X12_goes_165 (by omega) (fun x109 hx109 => ?_)
    refine ex_iw1 oq_X12_goes_166 hT (k := 131) (d := 70) (j := ln) rfl rfl (by omega) (by omega) ⟨(cw_i32 _).1, (cw_i32 _).2⟩ (fun h110 Th110 wh110 => ?_)
    refine ex_incA oq_X12_goes_167 (v := l) (m := 1) gL107_3 (by decide) (by omega) (fun L112 x111 hx111 gL112_3 kL112 => ?_)
    have gL112_4 : cv_get L112 4 = some (cv_l x106) := kL112 4 _ (by decide) (fun q => absurd q (by decide)) gL107_4
    have gL112_0 : cv_get L112 0 = some (cv_r 111) := kL112 0 _ (by decide) (fun q => absurd q (by decide)) gL107_0
    have gL112_1 : cv_get L112 1 = some (cv_i g) := kL112 1 _ (by decide) (fun q => absurd q (by decide)) gL107_1
    have gL112_2 : cv_get L112 2 = some (cv_i w) := kL112 2 _ (by decide) (fun _ => rfl) gL107_2
    refine ex_go oq_X12_goes_170 (t := 122) rfl rfl ?_
    exact hk h110 L112 x111 Th110 (cp_w wh110 cp_0) ((ri_self wh110).trans (by omega)) (fun i hi => ri_ne wh110 (.inr hi)) (by omega) gL112_0 gL112_1 gL112_2 gL112_3
theorem oq_X12_goes_0 : cw_ho 214 0 (.aload_n 0) 1 0 0 0 := rfl
theorem oq_X12_goes_1 : cw_ho 214 1 (.iload_n 1) 1 0 0 0 := rfl
theorem oq_X12_goes_2 : cw_ho 214 2 (.iload_n 2) 1 0 0 0 := rfl
theorem oq_X12_goes_3 : cw_ho 214 3 (.iconst 0) 1 0 0 0 := rfl
theorem oq_X12_goes_4 : cw_ho 214 4 (.invokevirtual 393) 3 212 3 12 := rfl
theorem oq_X12_goes_7 : cw_ho 214 7 (.iconst 0) 1 0 0 0 := rfl
theorem oq_X12_goes_8 : cw_ho 214 8 (.istore_n 3) 1 0 0 0 := rfl
theorem oq_X12_goes_61 : cw_ho 214 61 (.iconst 0) 1 0 0 0 := rfl
theorem oq_X12_goes_62 : cw_ho 214 62 (.istore_n 3) 1 0 0 0 := rfl
theorem oq_X12_goes_120 : cw_ho 214 120 (.iconst 0) 1 0 0 0 := rfl
theorem oq_X12_goes_121 : cw_ho 214 121 (.istore_n 3) 1 0 0 0 := rfl
theorem oq_X12_goes_173 : cw_ho 214 173 (.return_) 1 0 0 0 := rfl
set_option maxHeartbeats 4000000 in
theorem rl_goes (hT : cw_T G h0) {g : Int32} {gn : Nat} (hg : g.toInt = gn) (hg4 : gn < 4) {T γ : Nat → Int} (gT : zGT h0 gn T) (nV : zNV h0 γ) (rT : gTR T) (rG : gGR γ) {f : Nat → Int} (hG : ∀ j, j < 12 → ri_at h0 114 j = f j) (hf : ∀ j, 0 ≤ f j ∧ f j ≤ 100) {w : Int32} (hw : 0 ≤ w.toInt ∧ w.toInt ≤ 10000000) {LL : Nat → Option (List Int)} (hL : ∀ l, l < 3 → zRL h0 l (LL l)) {n : Nat} (hn : ri_at h0 111 14 = n) (hn6 : n ≤ 6) {dk dv : List Int} (d1 : ∀ c, c < n → ri_at h0 124 (3 * c + 1) = dk.getD c 0) (d2 : ∀ c, c < n → ri_at h0 124 (3 * c + 2) = dv.getD c 0) (hv : ∀ c, 0 ≤ dv.getD c 0 ∧ dv.getD c 0 ≤ 999) (hkd : ∀ c, c < n → 0 ≤ dk.getD c 0 ∧ dk.getD c 0 ≤ 2) {S : Nat} (hS : γ 11 = S) (hS64 : S < 64) (hM : γ 12 = zMs dk dv S 0 n ∧ γ 13 = zMs dk dv S 1 n ∧ γ 14 = zMs dk dv S 2 n) (hQ : ∀ h', cw_T G h' → zW6 h0 h' → zNV h' (gWk T f LL w.toInt γ) → Q (none, h')) : cw_X X 214 Q 0 (cv_ent 0 [cv_r 111, cv_i g, cv_i w]) [] h0 := by
  refine ex_al oq_X12_goes_0 rfl ?_
  refine ex_il oq_X12_goes_1 rfl ?_
  refine ex_il oq_X12_goes_2 rfl ?_
  refine ex_ic oq_X12_goes_3 (m := 0) (by decide) (fun x101 hx101 => ?_)
  refine ex_cv oq_X12_goes_4 (by decide) hT (k := 111) (d := 12) (as := [cv_i g, cv_i w, cv_i x101]) (stk := []) rfl rfl rfl rfl rfl rfl ⟨rfl, rfl⟩ (R := fun o => ∃ hb : cv_H, o = (none, hb) ∧ cw_T G hb ∧ cp_F 132 h0 hb ∧ (∀ j, j < 10 → rl_at hb 132 j = gNm T γ (gFirm f w.toInt) w.toInt x101.toInt j)) (rl_layNames hT hg hg4 gT nV rT rG hG hf hw (fun hb b1 b2 b3 => ⟨hb, rfl, b1, b2, b3⟩)) (fun o ho => ?_)
  obtain ⟨h102, rfl, Th102, ch102, Nh102⟩ := ho
  show cw_X _ _ _ _ _ [] h102
  rw [hx101] at Nh102
  refine ex_ic oq_X12_goes_7 (m := 0) (by decide) (fun x103 hx103 => ?_)
  refine ex_isA oq_X12_goes_8 (fun L104 gL104_3 kL104 => ?_)
  have gL104_0 : cv_get L104 0 = some (cv_r 111) := kL104 0 _ (by decide) (fun q => absurd q (by decide)) rfl
  have gL104_1 : cv_get L104 1 = some (cv_i g) := kL104 1 _ (by decide) (fun q => absurd q (by decide)) rfl
  have gL104_2 : cv_get L104 2 = some (cv_i w) := kL104 2 _ (by decide) (fun _ => rfl) rfl
  have hNb : ∀ j, zbb ((gNm T γ (gFirm f w.toInt) w.toInt 0) j) := gNm_b rT rG (hf _) hw (by omega)
  have L0 : ∀ l, l < 3 → zRL h102 l (LL l) := fun l q => zRL_eq (hL l q) (fun k i hk => cp_ri ch102 (by omega))
  refine go_it Th102 (ln := 0) (by omega) (by omega) (L0 0 (by omega)) Nh102 hNb gL104_0 gL104_1 gL104_2 gL104_3 (fun u0 M0 l0 Tu0 Wu0 v0 o0 hl0 q00 q01 q02 q03 => ?_)
  have Nu0 : ∀ j, j < 10 → rl_at u0 132 j = (gNm T γ (gFirm f w.toInt) w.toInt 0) j := fun j hj => (zW4_rl Wu0 (by decide) (by decide) (by decide)).trans (Nh102 j hj)
  have Lu0 : ∀ l, l < 3 → zRL u0 l (LL l) := fun l q => zRL_eq (L0 l q) (fun k i hk => zW4_ri Wu0 (by omega) (by omega) (by omega))
  refine go_it Tu0 (ln := 1) (by omega) (by omega) (Lu0 1 (by omega)) Nu0 hNb q00 q01 q02 q03 (fun u1 M1 l1 Tu1 Wu1 v1 o1 hl1 q10 q11 q12 q13 => ?_)
  have Nu1 : ∀ j, j < 10 → rl_at u1 132 j = (gNm T γ (gFirm f w.toInt) w.toInt 0) j := fun j hj => (zW4_rl Wu1 (by decide) (by decide) (by decide)).trans (Nu0 j hj)
  have Lu1 : ∀ l, l < 3 → zRL u1 l (LL l) := fun l q => zRL_eq (Lu0 l q) (fun k i hk => zW4_ri Wu1 (by omega) (by omega) (by omega))
  refine go_it Tu1 (ln := 2) (by omega) (by omega) (Lu1 2 (by omega)) Nu1 hNb q10 q11 q12 q13 (fun u2 M2 l2 Tu2 Wu2 v2 o2 hl2 q20 q21 q22 q23 => ?_)
  have Nu2 : ∀ j, j < 10 → rl_at u2 132 j = (gNm T γ (gFirm f w.toInt) w.toInt 0) j := fun j hj => (zW4_rl Wu2 (by decide) (by decide) (by decide)).trans (Nu1 j hj)
  have Lu2 : ∀ l, l < 3 → zRL u2 l (LL l) := fun l q => zRL_eq (Lu1 l q) (fun k i hk => zW4_ri Wu2 (by omega) (by omega) (by omega))
  have a0 : rl_at u2 134 0 = gLw (LL 0) (gNm T γ (gFirm f w.toInt) w.toInt 0) := (o2 0 (by decide)).trans ((o1 0 (by decide)).trans v0)
  have a1 : rl_at u2 134 1 = gLw (LL 1) (gNm T γ (gFirm f w.toInt) w.toInt 0) := (o2 1 (by decide)).trans v1
  have W2 : zW4 h102 u2 := zW4_tr Wu0 (zW4_tr Wu1 Wu2)
  have F2 : zW6 h0 u2 := zW6_tr (zW6_c ch102 (.inr (.inl rfl))) (zW6_4 W2)
  have n2 : ∀ j, ri_at u2 131 j = ri_at h0 131 j := fun j => (zW4_ri W2 (by decide) (by decide) (by decide)).trans (cp_ri ch102 (by decide))
  refine ex_il oq_X12_goes_9 q23 ?_
  refine ex_ic oq_X12_goes_10 (m := 3) (by decide) (fun x105 hx105 => ?_)
  refine ex_if oq_X12_goes_11 (t := 61) rfl rfl (fun (c106 : x105.toInt ≤ l2.toInt) => ?_) (fun (c106 : ¬ (x105.toInt ≤ l2.toInt)) => ?_)
  · refine ex_ic oq_X12_goes_61 (m := 0) (by decide) (fun x107 hx107 => ?_)
    refine ex_isA oq_X12_goes_62 (fun L108 gL108_3 kL108 => ?_)
    have gL108_0 : cv_get L108 0 = some (cv_r 111) := kL108 0 _ (by decide) (fun q => absurd q (by decide)) q20
    have gL108_1 : cv_get L108 1 = some (cv_i g) := kL108 1 _ (by decide) (fun q => absurd q (by decide)) q21
    have gL108_2 : cv_get L108 2 = some (cv_i w) := kL108 2 _ (by decide) (fun _ => rfl) q22
    have gb : ∀ k, 0 ≤ gLw (LL k) (gNm T γ (gFirm f w.toInt) w.toInt 0) ∧ gLw (LL k) (gNm T γ (gFirm f w.toInt) w.toInt 0) ≤ 9999 := fun k => gLw_b
    refine go_cs (h0 := u2) ((ri_eq (F2.2 14 (by decide))).trans hn) hn6 (fun c q => (zW6_ri F2 (by decide) (by decide) (by decide) (by decide) (by decide)).trans (d1 c q)) (fun c q => (zW6_ri F2 (by decide) (by decide) (by decide) (by decide) (by decide)).trans (d2 c q)) hv hkd (S := S) ((n2 10).trans ((nV 10 (by decide)).trans hS)) hS64 (A := fun k => gLw (LL k) (gNm T γ (gFirm f w.toInt) w.toInt 0)) gb (fun u3 M3 Tu3 c3 vA q30 q31 q32 => ?_) n 0 x107 u2 L108 (by omega) (by omega) (by omega) Tu2 cp_0 (fun k q => ?_) gL108_0 gL108_1 gL108_2 gL108_3
    rotate_left
    · have : k = 0 ∨ k = 1 ∨ k = 2 := by omega
      show rl_at u2 134 k = gLw (LL k) _ + 0
      rw [Int.add_zero]
      rcases this with rfl | rfl | rfl
      · exact a0
      · exact a1
      · exact v2
    have F3 : zW6 h0 u3 := zW6_tr F2 (zW6_c c3 (.inr (.inr rfl)))
    have n3 : ∀ j, ri_at u3 131 j = ri_at h0 131 j := fun j => (cp_ri c3 (by decide)).trans (n2 j)
    refine ex_ic oq_X12_goes_120 (m := 0) (by decide) (fun x109 hx109 => ?_)
    refine ex_isA oq_X12_goes_121 (fun L110 gL110_3 kL110 => ?_)
    have gL110_0 : cv_get L110 0 = some (cv_r 111) := kL110 0 _ (by decide) (fun q => absurd q (by decide)) q30
    have gL110_1 : cv_get L110 1 = some (cv_i g) := kL110 1 _ (by decide) (fun q => absurd q (by decide)) q31
    have gL110_2 : cv_get L110 2 = some (cv_i w) := kL110 2 _ (by decide) (fun _ => rfl) q32
    obtain ⟨hM0, hM1, hM2⟩ := hM
    have z0 := zMs_b (dk := dk) (S := S) (kind := (0 : Int)) hv n
    have gb0 := gb 0
    have z1 := zMs_b (dk := dk) (S := S) (kind := (1 : Int)) hv n
    have gb1 := gb 1
    have z2 := zMs_b (dk := dk) (S := S) (kind := (2 : Int)) hv n
    have gb2 := gb 2
    obtain ⟨rG1, rG2, rG3, rG4, rG5, rG6, rG7, rG8, rG9, rG10, rG11, rG12, rG13, rG14, rG15, rG16⟩ := rG
    refine go_i3 Tu3 (ln := 0) (A := γ 1) (B := gLw (LL 0) (gNm T γ (gFirm f w.toInt) w.toInt 0) + zMs dk dv S 0 n) (by omega) (by omega) ((n3 0).trans (nV 0 (by decide))) (vA 0 (by decide)) (by omega) gL110_0 gL110_1 gL110_2 gL110_3 (fun x0 K0 m0 Tx0 f0 r0 p0 hm0 s00 s01 s02 s03 => ?_)
    refine go_i3 Tx0 (ln := 1) (A := γ 2) (B := gLw (LL 1) (gNm T γ (gFirm f w.toInt) w.toInt 0) + zMs dk dv S 1 n) (by omega) (by omega) ((p0 1 (by decide)).trans ((n3 1).trans (nV 1 (by decide)))) ((rl_eq (cp_at f0 (by decide))).trans (vA 1 (by decide))) (by omega) s00 s01 s02 s03 (fun x1 K1 m1 Tx1 f1 r1 p1 hm1 s10 s11 s12 s13 => ?_)
    refine go_i3 Tx1 (ln := 2) (A := γ 3) (B := gLw (LL 2) (gNm T γ (gFirm f w.toInt) w.toInt 0) + zMs dk dv S 2 n) (by omega) (by omega) ((p1 2 (by decide)).trans ((p0 2 (by decide)).trans ((n3 2).trans (nV 2 (by decide))))) ((rl_eq (cp_at f1 (by decide))).trans ((rl_eq (cp_at f0 (by decide))).trans (vA 2 (by decide)))) (by omega) s10 s11 s12 s13 (fun x2 K2 m2 Tx2 f2 r2 p2 hm2 s20 s21 s22 s23 => ?_)
    have F6 : zW6 h0 x2 := zW6_tr F3 (zW6_tr (zW6_c f0 (.inl rfl)) (zW6_tr (zW6_c f1 (.inl rfl)) (zW6_c f2 (.inl rfl))))
    have nE : zNV x2 (gWk T f LL w.toInt γ) := by
      intro j hj
      have e3 : j ≠ 0 → j ≠ 1 → j ≠ 2 → ri_at x2 131 j = γ (zni j) := fun c0 c1 c2 => (p2 j c2).trans ((p1 j c1).trans ((p0 j c0).trans ((n3 j).trans (nV j hj))))
      have : j = 0 ∨ j = 1 ∨ j = 2 ∨ j = 3 ∨ j = 4 ∨ j = 5 ∨ j = 6 ∨ j = 7 ∨ j = 8 ∨ j = 9 ∨ j = 10 := by omega
      rcases this with rfl | rfl | rfl | rfl | rfl | rfl | rfl | rfl | rfl | rfl | rfl
      · show _ = min 1000000 (γ 1 + gLw (LL 0) (gNm T γ (gFirm f w.toInt) w.toInt 0) + γ 12)
        rw [(p2 0 (by decide)), (p1 0 (by decide)), r0, hM0, Int.add_assoc]
      · show _ = min 1000000 (γ 2 + gLw (LL 1) (gNm T γ (gFirm f w.toInt) w.toInt 0) + γ 13)
        rw [(p2 1 (by decide)), r1, hM1, Int.add_assoc]
      · show _ = min 1000000 (γ 3 + gLw (LL 2) (gNm T γ (gFirm f w.toInt) w.toInt 0) + γ 14)
        rw [r2, hM2, Int.add_assoc]
      · exact e3 (by decide) (by decide) (by decide)
      · exact e3 (by decide) (by decide) (by decide)
      · exact e3 (by decide) (by decide) (by decide)
      · exact e3 (by decide) (by decide) (by decide)
      · exact e3 (by decide) (by decide) (by decide)
      · exact e3 (by decide) (by decide) (by decide)
      · exact e3 (by decide) (by decide) (by decide)
      · exact e3 (by decide) (by decide) (by decide)
    refine ex_il oq_X12_goes_122 s23 ?_
    refine ex_ic oq_X12_goes_123 (m := 3) (by decide) (fun x111 hx111 => ?_)
    refine ex_if oq_X12_goes_124 (t := 173) rfl rfl (fun (c112 : x111.toInt ≤ m2.toInt) => ?_) (fun (c112 : ¬ (x111.toInt ≤ m2.toInt)) => ?_)
    · exact ex_retv oq_X12_goes_173 rfl (hQ x2 Tx2 F6 nE)
    · exfalso; omega
  · exfalso; omega
end GN
end
