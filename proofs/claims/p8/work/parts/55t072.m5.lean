/-! ===== a law's value: the reference ===== -/
def zLo (o : Option (List Int)) (N : Nat → Int) : Option Int := match o with
  | none => none
  | some cs => zLV N cs
theorem gLw_o {o : Option (List Int)} {N : Nat → Int} : gLw o N = gCl (zLo o N) := by cases o <;> rfl
/-- a law as the reference holds it -/
def zRL (h : cv_H) (l : Nat) (o : Option (List Int)) : Prop := match o with
  | none => ri_at h 117 l = 0
  | some cs => ri_at h 117 l = 1 ∧ zWf cs ∧ ∃ a : Nat, ri_at h 115 l = a ∧ ri_at h 116 l = ((a + cs.length : Nat) : Int) ∧ a + cs.length ≤ 64 ∧ zKN h 0 a [] cs
theorem zRL_eq {h h' : cv_H} {l : Nat} {o : Option (List Int)} (a : zRL h l o) (e : ∀ k i, (k = 115 ∨ k = 116 ∨ k = 117 ∨ k = 125 ∨ k = 126 ∨ k = 127) → ri_at h' k i = ri_at h k i) : zRL h' l o := by
  cases o with
  | none => exact (e 117 l (by omega)).trans a
  | some cs =>
    obtain ⟨a1, a2, x, a3, a4, a5, a6⟩ := a
    exact ⟨(e 117 l (by omega)).trans a1, a2, x, (e 115 l (by omega)).trans a3, (e 116 l (by omega)).trans a4, a5, zKN_eq a6 (fun j _ => ⟨e 125 _ (by omega), e 126 _ (by omega), e 127 _ (by omega)⟩)⟩
/-- what working a law out may change -/
def zE9 (h h' : cv_H) : Prop := (∀ k : Nat, k ≠ 111 → k ≠ 133 → h'[k]? = h[k]?) ∧ ∀ i, i ≠ 48 → cw_at h' 111 i = cw_at h 111 i
theorem zE9_0 {h : cv_H} : zE9 h h := ⟨fun _ _ _ => rfl, fun _ _ => rfl⟩
theorem zE9_tr {h h' h'' : cv_H} (a : zE9 h h') (b : zE9 h' h'') : zE9 h h'' := ⟨fun k p q => (b.1 k p q).trans (a.1 k p q), fun i q => (b.2 i q).trans (a.2 i q)⟩
theorem zE9_8 {h0 h h' : cv_H} (a : zE9 h0 h) (w : zE8 h h') : zE9 h0 h' := ⟨fun k p q => (w.1 k p).trans (a.1 k p q), fun i q => (w.2 i q).trans (a.2 i q)⟩
theorem zE9_w {h0 h h' : cv_H} {j : Nat} {v : cv_V} (a : zE9 h0 h) (w : cw_Wr h h' 133 j v) : zE9 h0 h' := ⟨fun k p q => (w.2.2 k q).trans (a.1 k p q), fun i q => (w.2.1 111 i (.inl (by decide))).trans (a.2 i q)⟩
theorem zE9_at {h0 h : cv_H} {k i : Nat} (a : zE9 h0 h) (p : k ≠ 111) (q : k ≠ 133) : cw_at h k i = cw_at h0 k i := by unfold cw_at; rw [a.1 k p q]
theorem zE9_ri {h0 h : cv_H} {k i : Nat} (a : zE9 h0 h) (p : k ≠ 111) (q : k ≠ 133) : ri_at h k i = ri_at h0 k i := ri_eq (zE9_at a p q)
theorem zE9_rl {h0 h : cv_H} {k i : Nat} (a : zE9 h0 h) (p : k ≠ 111) (q : k ≠ 133) : rl_at h k i = rl_at h0 k i := rl_eq (zE9_at a p q)
theorem zls_last : ∀ (l : List Int), 0 < l.length → ∃ p c, l = p ++ [c]
  | [], h => absurd h (by simp)
  | [a], _ => ⟨[], a, rfl⟩
  | a :: b :: l, _ => by
    obtain ⟨p, c, e⟩ := zls_last (b :: l) (by simp)
    exact ⟨a :: p, c, by rw [e]; rfl⟩
theorem zmd : ∀ (n : Nat) (l : List Int) (v : Int), v ∈ l.drop n → v ∈ l
  | 0, _, _, h => h
  | _ + 1, [], _, h => h
  | n + 1, a :: l, v, h => List.mem_cons_of_mem a (zmd n l v h)
theorem zmp {f g : Int → Int} : ∀ {l : List Int}, (∀ v, v ∈ l → f v = g v) → l.map f = l.map g
  | [], _ => rfl
  | a :: l, e => by
    rw [List.map_cons, List.map_cons, e a (List.mem_cons_self ..), zmp (fun v hv => e v (List.mem_cons_of_mem a hv))]
theorem zq_r {c : Int} {I : List Int} {a k : Nat} (h : 0 ≤ c ∧ c ≤ 20012 ∧ (c < 10010 ∨ 20000 ≤ c)) (hk : zka c ≤ I.length) (hI : ∀ v, v ∈ I → (a : Int) ≤ v ∧ v < k) : (0 ≤ zq1 c ∧ zq1 c ≤ 14) ∧ (zq1 c = 0 → 0 ≤ zq2 I c ∧ zq2 I c ≤ 9999) ∧ (zq1 c = 1 → 0 ≤ zq2 I c ∧ zq2 I c < 10) ∧ (2 ≤ zq1 c → (a : Int) ≤ zq2 I c ∧ zq2 I c < k) ∧ (3 ≤ zq1 c → (a : Int) ≤ zq3 I c ∧ zq3 I c < k) := by
  by_cases c1 : c < 10000
  · have e1 : zq1 c = 0 := by unfold zq1; rw [if_pos c1]
    have e2 : zq2 I c = c := by unfold zq2; rw [if_pos c1]
    rw [e1, e2]
    exact ⟨by omega, fun _ => by omega, fun q => by omega, fun q => by omega, fun q => by omega⟩
  by_cases c2 : c < 20000
  · have e1 : zq1 c = 1 := by unfold zq1; rw [if_neg c1, if_pos c2]
    have e2 : zq2 I c = c - 10000 := by unfold zq2; rw [if_neg c1, if_pos c2]
    rw [e1, e2]
    exact ⟨by omega, fun q => by omega, fun _ => by omega, fun q => by omega, fun q => by omega⟩
  by_cases c3 : c = 20002
  · subst c3
    obtain ⟨x, I', rfl⟩ := zls1 (show 1 ≤ I.length from hk)
    have e1 : zq1 20002 = 2 := by decide
    have e2 : zq2 (x :: I') 20002 = x := rfl
    have hx := hI x (List.mem_cons_self ..)
    rw [e1, e2]
    exact ⟨by omega, fun q => by omega, fun q => by omega, fun _ => hx, fun q => by omega⟩
  have ek : zka c = 2 := by unfold zka; rw [if_neg c2, if_neg c3]
  rw [ek] at hk
  obtain ⟨y, x, I', rfl⟩ := zls2 hk
  have e1 : zq1 c = zri c := by unfold zq1; rw [if_neg c1, if_neg c2]
  have e2 : zq2 (y :: x :: I') c = x := by unfold zq2; rw [if_neg c1, if_neg c2, if_neg c3]; rfl
  have e3 : zq3 (y :: x :: I') c = y := by unfold zq3; rw [if_neg c2, if_neg c3]; rfl
  have er : 3 ≤ zri c ∧ zri c ≤ 14 := by
    unfold zri
    repeat' split
    all_goals omega
  have hx := hI x (List.mem_cons_of_mem y (List.mem_cons_self ..))
  have hy := hI y (List.mem_cons_self ..)
  rw [e1, e2, e3]
  exact ⟨by omega, fun q => by omega, fun q => by omega, fun _ => hx, fun _ => hy⟩
/-- values of the knots that wait, or the law has none -/
def zSt (N V : Nat → Int) (pre I : List Int) (e : Int) : Prop := (e = 0 ∧ zev N pre [] = some (I.map (fun i => V i.toNat))) ∨ (e = 1 ∧ zev N pre [] = none)
theorem zSt_s {N V V' : Nat → Int} {pre I : List Int} {c e e' y : Int} {kn : Nat} (st : zSt N V pre I e) (h0 : 0 ≤ c) (hd : zka c ≤ I.length) (hI : ∀ v, v ∈ I → 0 ≤ v ∧ v < kn) (hk : V' kn = y) (hV : ∀ j, j < kn → V' j = V j) (d : (e = 0 ∧ e' = 0 ∧ zvo N V (zq1 c) (zq2 I c) (zq3 I c) = some y) ∨ (e' = 1 ∧ (e = 1 ∨ zvo N V (zq1 c) (zq2 I c) (zq3 I c) = none))) : zSt N V' (pre ++ [c]) ((kn : Int) :: I.drop (zka c)) e' := by
  rcases st with ⟨s1, s2⟩ | ⟨s1, s2⟩
  · have q := zev_ap (c := c) s2
    rw [zvo_E h0 hd (fun v hv => (hI v hv).1)] at q
    rcases d with ⟨_, d2, d3⟩ | ⟨d1, d2 | d2⟩
    · refine .inl ⟨d2, ?_⟩
      rw [q, d3]
      have m := zmp (f := fun i => V' i.toNat) (g := fun i => V i.toNat) (l := I.drop (zka c)) (fun v hv => hV v.toNat (by have := hI v (zmd _ _ _ hv); omega))
      show some (y :: (I.drop (zka c)).map (fun i => V i.toNat)) = some (V' ((kn : Int)).toNat :: (I.drop (zka c)).map (fun i => V' i.toNat))
      rw [m, show ((kn : Int)).toNat = kn from by omega, hk]
    · exfalso; omega
    · exact .inr ⟨d1, by rw [q, d2]; rfl⟩
  · rcases d with ⟨d1, _⟩ | ⟨d1, _⟩
    · exfalso; omega
    · exact .inr ⟨d1, zev_no s2⟩
theorem zLV_top {N V : Nat → Int} {a : Nat} {cs : List Int} (hw : 0 < cs.length) (h1 : ∀ S, zev N cs [] = some S → S.length = 1) (h : zev N cs [] = some ((zkS a [] cs).map (fun i => V i.toNat))) : zLV N cs = some (V (a + cs.length - 1)) := by
  have l1 := h1 _ h
  unfold zLV
  rw [h]
  obtain ⟨p, c, rfl⟩ := zls_last cs hw
  rw [zkS_app] at l1 ⊢
  show some (V (((a + p.length : Nat) : Int)).toNat) = _
  rw [show (((a + p.length : Nat) : Int)).toNat = a + (p ++ [c]).length - 1 from by rw [List.length_append, List.length_singleton]; omega]
section GN
variable {G : Int} {X : cv_X} {Q : cv_O → Prop} {h0 : cv_H}
section LO
variable {a ln : Nat} {l : Int32} {cs : List Int} {N : Nat → Int}
set_option maxHeartbeats 4000000 in
theorem lo_lp (hl : l.toInt = ln) (hl4 : ln < 4) (hA : ri_at h0 115 ln = a) (hB : ri_at h0 116 ln = ((a + cs.length : Nat) : Int)) (h64 : a + cs.length ≤ 64) (hw : 0 < cs.length) (hcb : ∀ c, c ∈ cs → 0 ≤ c ∧ c ≤ 20012 ∧ (c < 10010 ∨ 20000 ≤ c)) (h1 : ∀ S, zev N cs [] = some S → S.length = 1) (hN : ∀ j, j < 10 → rl_at h0 132 j = N j) (hNb : ∀ j, zbb (N j)) (hQ : ∀ (y : Int64) h', cw_T G h' → zE9 h0 h' → (ri_at h' 111 48 = 0 ∧ zLV N cs = some y.toInt ∨ ri_at h' 111 48 = 1 ∧ zLV N cs = none ∧ y.toInt = 0) → Q (some (cv_l y), h')) : ∀ (rest pre : List Int) (V : Nat → Int) (KK : Int32) (h : cv_H) (L : cv_L) (e : Int), pre ++ rest = cs → zKN h0 0 (a + pre.length) (zkS a [] pre) rest → (∀ v, v ∈ zkS a [] pre → (a : Int) ≤ v ∧ v < ((a + pre.length : Nat) : Int)) → (∀ j, j < 64 → rl_at h 133 j = V j) → (∀ j, a ≤ j → j < a + pre.length → zbb (V j)) → zSt N V pre (zkS a [] pre) e → ri_at h 111 48 = e → KK.toInt = ((a + pre.length : Nat) : Int) → cw_T G h → zE9 h0 h → cv_get L 0 = some (cv_r 111) → cv_get L 1 = some (cv_i l) → cv_get L 2 = some (cv_i KK) → cw_X X 213 Q 34 L [] h := by
  intro rest
  induction rest with
  | nil =>
    intro pre V KK h L e hpre hK hI hV hVb st he hKK hT hE g0 g1 g2
    rw [List.append_nil] at hpre
    rw [hpre] at st hKK
    refine ex_il oq_X12_lawOf_34 g2 ?_
    refine ex_al oq_X12_lawOf_35 g0 ?_
    refine ex_gf oq_X12_lawOf_36 hT (k := 111) (d := 12) rfl rfl (fr_lawLast hT) ?_
    refine ex_il oq_X12_lawOf_39 g1 ?_
    refine ex_ia1 oq_X12_lawOf_40 hT (k := 116) (d := 55) (j := ln) rfl rfl (by omega) (by omega) (fun x101 hx101 lx101 ux101 => ?_)
    have hx101 := (hx101.symm.trans ((zE9_ri hE (by decide) (by decide)).trans hB) : x101.toInt = ((a + cs.length : Nat) : Int))
    refine ex_if oq_X12_lawOf_41 (t := 61) rfl rfl (fun (c102 : x101.toInt ≤ KK.toInt) => ?_) (fun (c102 : ¬ (x101.toInt ≤ KK.toInt)) => ?_)
    · refine ex_al oq_X12_lawOf_61 g0 ?_
      obtain ⟨x103, ax103, rx103, lx103, ux103⟩ := fi_isError hT
      refine ex_gf oq_X12_lawOf_62 hT (k := 111) (d := 12) rfl rfl ax103 ?_
      have rx103 := (rx103.symm.trans he : x103.toInt = e)
      refine ex_if0 oq_X12_lawOf_65 (t := 72) rfl rfl (fun (c104 : x103.toInt = 0) => ?_) (fun (c104 : ¬ (x103.toInt = 0)) => ?_)
      · refine ex_al oq_X12_lawOf_72 g0 ?_
        refine ex_gf oq_X12_lawOf_73 hT (k := 111) (d := 12) rfl rfl (fr_value hT) ?_
        refine ex_al oq_X12_lawOf_76 g0 ?_
        refine ex_gf oq_X12_lawOf_77 hT (k := 111) (d := 12) rfl rfl (fr_lawLast hT) ?_
        refine ex_il oq_X12_lawOf_80 g1 ?_
        refine ex_ia1 oq_X12_lawOf_81 hT (k := 116) (d := 55) (j := ln) rfl rfl (by omega) (by omega) (fun x105 hx105 lx105 ux105 => ?_)
        have hx105 := (hx105.symm.trans ((zE9_ri hE (by decide) (by decide)).trans hB) : x105.toInt = ((a + cs.length : Nat) : Int))
        refine ex_ic oq_X12_lawOf_82 (m := 1) (by decide) (fun x106 hx106 => ?_)
        refine ex_sub oq_X12_lawOf_83 (by omega) (fun x107 hx107 => ?_)
        refine ex_laV oq_X12_lawOf_84 hT (k := 133) (d := 72) (j := a + cs.length - 1) rfl rfl (by omega) (by omega) (fun x108 hx108 => ?_)
        replace hx108 : x108.toInt = V (a + cs.length - 1) := hx108.symm.trans (hV _ (by omega))
        rcases st with ⟨s1, s2⟩ | ⟨s1, s2⟩
        · exact ex_retl oq_X12_lawOf_85 rfl (hQ x108 h hT hE (.inl ⟨he.trans s1, by rw [zLV_top hw h1 s2]; exact congrArg some (by omega)⟩))
        · exfalso; omega
      · refine ex_lc oq_X12_lawOf_68 (m := 0) (by decide) (fun x109 hx109 => ?_)
        refine ex_go oq_X12_lawOf_69 (t := 85) rfl rfl ?_
        rcases st with ⟨s1, s2⟩ | ⟨s1, s2⟩
        · exfalso; omega
        · exact ex_retl oq_X12_lawOf_85 rfl (hQ x109 h hT hE (.inr ⟨he.trans s1, by unfold zLV; rw [s2], by omega⟩))
    · exfalso; omega
  | cons c rest ih =>
    intro pre V KK h L e hpre hK hI hV hVb st he hKK hT hE g0 g1 g2
    have hpl : pre.length < cs.length := by rw [← hpre, List.length_append, List.length_cons]; omega
    have hc0 := hcb c (by rw [← hpre]; exact List.mem_append_right _ (List.mem_cons_self ..))
    obtain ⟨⟨⟨k1, k2, k3⟩, k4⟩, k5⟩ := hK
    rw [Nat.zero_add] at k1 k2 k3
    replace k1 := (zE9_ri hE (by decide) (by decide)).trans k1
    replace k2 := (zE9_ri hE (by decide) (by decide)).trans k2
    replace k3 := (zE9_ri hE (by decide) (by decide)).trans k3
    obtain ⟨f1, f2, f3, f4, f5⟩ := zq_r (a := a) (k := a + pre.length) hc0 k4 hI
    have h01 : e = 0 ∨ e = 1 := by rcases st with s | s; exact .inl s.1; exact .inr s.1
    refine ex_il oq_X12_lawOf_34 g2 ?_
    refine ex_al oq_X12_lawOf_35 g0 ?_
    refine ex_gf oq_X12_lawOf_36 hT (k := 111) (d := 12) rfl rfl (fr_lawLast hT) ?_
    refine ex_il oq_X12_lawOf_39 g1 ?_
    refine ex_ia1 oq_X12_lawOf_40 hT (k := 116) (d := 55) (j := ln) rfl rfl (by omega) (by omega) (fun x101 hx101 lx101 ux101 => ?_)
    have hx101 := (hx101.symm.trans ((zE9_ri hE (by decide) (by decide)).trans hB) : x101.toInt = ((a + cs.length : Nat) : Int))
    refine ex_if oq_X12_lawOf_41 (t := 61) rfl rfl (fun (c102 : x101.toInt ≤ KK.toInt) => ?_) (fun (c102 : ¬ (x101.toInt ≤ KK.toInt)) => ?_)
    · exfalso; omega
    · refine ex_al oq_X12_lawOf_44 g0 ?_
      refine ex_gf oq_X12_lawOf_45 hT (k := 111) (d := 12) rfl rfl (fr_value hT) ?_
      refine ex_il oq_X12_lawOf_48 g2 ?_
      refine ex_al oq_X12_lawOf_49 g0 ?_
      refine ex_il oq_X12_lawOf_50 g2 ?_
      refine ex_cv oq_X12_lawOf_51 (by decide) hT (k := 111) (d := 12) (as := [cv_i KK]) (stk := [cv_i KK, cv_r 133]) rfl rfl rfl rfl rfl rfl ⟨rfl, rfl⟩ (R := fun o => ∃ (y : Int64) (hb : cv_H), o = (some (cv_l y), hb) ∧ cw_T G hb ∧ zE8 h hb ∧ zbb y.toInt ∧ zvR (zvo N V (zq1 c) (zq2 (zkS a [] pre) c) (zq3 (zkS a [] pre) c)) e y.toInt hb) (rl_valueOf hT (kn := a + pre.length) (by omega) (by omega) k1 k2 k3 f1 f2 f3 (fun q => by have := f4 q; omega) (fun q => by have := f5 q; omega) (fun j hj => (zE9_rl hE (by decide) (by decide)).trans (hN j hj)) hNb hV (fun q => hVb _ (by have := f4 q; omega) (by have := f4 q; omega)) (fun q => hVb _ (by have := f5 q; omega) (by have := f5 q; omega)) he h01 (fun y hb b1 b2 b3 b4 => ⟨y, hb, rfl, b1, b2, b3, b4⟩)) (fun o ho => ?_)
      obtain ⟨x103, h104, rfl, Th104, zh104, bx103, dx103⟩ := ho
      show cw_X _ _ _ _ _ [cv_l x103, cv_i KK, cv_r 133] h104
      obtain ⟨eh104, heh104⟩ : ∃ z, ri_at h104 111 48 = z := ⟨_, rfl⟩
      unfold zvR at dx103
      rw [heh104] at dx103
      have hVh104 : ∀ j, j < 64 → rl_at h104 133 j = V j := fun j hj => (rl_eq (by unfold cw_at; rw [zh104.1 133 (by decide)])).trans (hV j hj)
      refine ex_lw oq_X12_lawOf_54 Th104 (k := 133) (d := 72) (j := a + pre.length) rfl rfl (by omega) (by omega) (fun h105 Th105 wh105 => ?_)
      have eh105_111_48 : ri_at h105 111 48 = eh104 := (ri_ne wh105 (.inl (by decide))).trans heh104
      refine ex_incA oq_X12_lawOf_55 (v := KK) (m := 1) g2 (by decide) (by omega) (fun L107 x106 hx106 gL107_2 kL107 => ?_)
      have gL107_0 : cv_get L107 0 = some (cv_r 111) := kL107 0 _ (by decide) (fun q => absurd q (by decide)) g0
      have gL107_1 : cv_get L107 1 = some (cv_i l) := kL107 1 _ (by decide) (fun _ => rfl) g1
      refine ex_go oq_X12_lawOf_58 (t := 34) rfl rfl ?_
      have ez := zSt_s (V' := fun j => if j = a + pre.length then x103.toInt else V j) (kn := a + pre.length) st hc0.1 k4 (fun v hv => by have := hI v hv; omega) (if_pos rfl) (fun j hj => if_neg (by omega)) dx103
      refine ih (pre ++ [c]) (fun j => if j = a + pre.length then x103.toInt else V j) x106 h105 L107 eh104 (by rw [List.append_assoc]; exact hpre) ?_ ?_ ?_ ?_ ?_ eh105_111_48 (by rw [List.length_append, List.length_singleton]; omega) Th105 (zE9_w (zE9_8 hE zh104) wh105) gL107_0 gL107_1 gL107_2
      · rw [zkS_app, List.length_append, List.length_singleton]
        exact k5
      · rw [zkS_app, List.length_append, List.length_singleton]
        intro v hv
        rcases List.mem_cons.mp hv with q | q
        · omega
        · have := hI v (zmd _ _ _ q)
          omega
      · intro j hj
        by_cases cj : j = a + pre.length
        · show _ = if j = a + pre.length then _ else _
          rw [if_pos cj, cj]
          exact rl_self wh105
        · show _ = if j = a + pre.length then _ else _
          rw [if_neg cj]
          exact (rl_ne wh105 (.inr cj)).trans (hVh104 j hj)
      · intro j hj1 hj2
        rw [List.length_append, List.length_singleton] at hj2
        show zbb (if j = a + pre.length then _ else _)
        by_cases cj : j = a + pre.length
        · rw [if_pos cj]; exact bx103
        · rw [if_neg cj]; exact hVb j hj1 (by omega)
      · rw [zkS_app]; exact ez
end LO
theorem rl_lawOf (hT : cw_T G h0) {l : Int32} {ln : Nat} (hl : l.toInt = ln) (hl4 : ln < 4) {oo : Option (List Int)} (hL : zRL h0 ln oo) {N : Nat → Int} (hN : ∀ j, j < 10 → rl_at h0 132 j = N j) (hNb : ∀ j, zbb (N j)) (hQ : ∀ (y : Int64) h', cw_T G h' → zE9 h0 h' → (ri_at h' 111 48 = 0 ∧ zLo oo N = some y.toInt ∨ ri_at h' 111 48 = 1 ∧ zLo oo N = none ∧ y.toInt = 0) → Q (some (cv_l y), h')) : cw_X X 213 Q 0 (cv_ent 0 [cv_r 111, cv_i l]) [] h0 := by
  cases oo with
  | none =>
    have hTd : ri_at h0 117 ln = 0 := hL
    refine ex_al oq_X12_lawOf_0 rfl ?_
    refine ex_al oq_X12_lawOf_1 rfl ?_
    refine ex_gf oq_X12_lawOf_2 hT (k := 111) (d := 12) rfl rfl (fr_lawTold hT) ?_
    refine ex_il oq_X12_lawOf_5 rfl ?_
    refine ex_ba1 oq_X12_lawOf_6 hT (k := 117) (d := 56) (j := ln) rfl rfl rfl (by omega) (by omega) (fun x101 hx101 lx101 ux101 => ?_)
    have hx101 : x101.toInt = 0 := hx101.symm.trans hTd
    refine ex_if0 oq_X12_lawOf_7 (t := 14) rfl rfl (fun (c102 : ¬ x101.toInt = 0) => ?_) (fun (c102 : ¬ (¬ x101.toInt = 0)) => ?_)
    · exfalso; omega
    · refine ex_ic oq_X12_lawOf_10 (m := 1) (by decide) (fun x103 hx103 => ?_)
      refine ex_go oq_X12_lawOf_11 (t := 15) rfl rfl ?_
      refine ex_pfb oq_X12_lawOf_15 hT (k := 111) (d := 12) rfl rfl rfl (by omega) (by omega) (fun h104 Th104 wh104 => ?_)
      have eh104_111_48 : ri_at h104 111 48 = x103.toInt := ri_self wh104
      have Eh104 : zE9 h0 h104 := zE9_8 zE9_0 (zE8_w wh104)
      refine ex_al oq_X12_lawOf_18 rfl ?_
      obtain ⟨x105, ax105, rx105, lx105, ux105⟩ := fi_isError Th104
      refine ex_gf oq_X12_lawOf_19 Th104 (k := 111) (d := 12) rfl rfl ax105 ?_
      have rx105 := (rx105.symm.trans eh104_111_48 : x105.toInt = x103.toInt)
      refine ex_if0 oq_X12_lawOf_22 (t := 27) rfl rfl (fun (c106 : x105.toInt = 0) => ?_) (fun (c106 : ¬ (x105.toInt = 0)) => ?_)
      · exfalso; omega
      · refine ex_lc oq_X12_lawOf_25 (m := 0) (by decide) (fun x107 hx107 => ?_)
        exact ex_retl oq_X12_lawOf_26 rfl (hQ x107 h104 Th104 Eh104 (.inr ⟨by omega, rfl, by omega⟩))
  | some cs =>
    obtain ⟨hTd, hw, a, hA, hB, h64, hK⟩ := hL
    refine ex_al oq_X12_lawOf_0 rfl ?_
    refine ex_al oq_X12_lawOf_1 rfl ?_
    refine ex_gf oq_X12_lawOf_2 hT (k := 111) (d := 12) rfl rfl (fr_lawTold hT) ?_
    refine ex_il oq_X12_lawOf_5 rfl ?_
    refine ex_ba1 oq_X12_lawOf_6 hT (k := 117) (d := 56) (j := ln) rfl rfl rfl (by omega) (by omega) (fun x101 hx101 lx101 ux101 => ?_)
    have hx101 : x101.toInt = 1 := hx101.symm.trans hTd
    refine ex_if0 oq_X12_lawOf_7 (t := 14) rfl rfl (fun (c102 : ¬ x101.toInt = 0) => ?_) (fun (c102 : ¬ (¬ x101.toInt = 0)) => ?_)
    · refine ex_ic oq_X12_lawOf_14 (m := 0) (by decide) (fun x103 hx103 => ?_)
      refine ex_pfb oq_X12_lawOf_15 hT (k := 111) (d := 12) rfl rfl rfl (by omega) (by omega) (fun h104 Th104 wh104 => ?_)
      have eh104_111_48 : ri_at h104 111 48 = x103.toInt := ri_self wh104
      have Eh104 : zE9 h0 h104 := zE9_8 zE9_0 (zE8_w wh104)
      have Ah104 : ri_at h104 115 ln = (a : Int) := (ri_ne wh104 (.inl (by decide))).trans hA
      refine ex_al oq_X12_lawOf_18 rfl ?_
      obtain ⟨x105, ax105, rx105, lx105, ux105⟩ := fi_isError Th104
      refine ex_gf oq_X12_lawOf_19 Th104 (k := 111) (d := 12) rfl rfl ax105 ?_
      have rx105 := (rx105.symm.trans eh104_111_48 : x105.toInt = x103.toInt)
      refine ex_if0 oq_X12_lawOf_22 (t := 27) rfl rfl (fun (c106 : x105.toInt = 0) => ?_) (fun (c106 : ¬ (x105.toInt = 0)) => ?_)
      · refine ex_al oq_X12_lawOf_27 rfl ?_
        refine ex_gf oq_X12_lawOf_28 Th104 (k := 111) (d := 12) rfl rfl (fr_lawFirst Th104) ?_
        refine ex_il oq_X12_lawOf_31 rfl ?_
        refine ex_ia1 oq_X12_lawOf_32 Th104 (k := 115) (d := 54) (j := ln) rfl rfl (by omega) (by omega) (fun x107 hx107 lx107 ux107 => ?_)
        have hx107 := (hx107.symm.trans Ah104 : x107.toInt = (a : Int))
        refine ex_isA oq_X12_lawOf_33 (fun L108 gL108_2 kL108 => ?_)
        have gL108_0 : cv_get L108 0 = some (cv_r 111) := kL108 0 _ (by decide) (fun q => absurd q (by decide)) rfl
        have gL108_1 : cv_get L108 1 = some (cv_i l) := kL108 1 _ (by decide) (fun _ => rfl) rfl
        exact lo_lp hl hl4 hA hB h64 hw.1 hw.2.1 (hw.2.2.2 N) hN hNb hQ cs [] (fun j => rl_at h104 133 j) x107 h104 L108 0 rfl hK (fun v hv => absurd hv (by simp [zkS])) (fun j _ => rfl) (fun j q q2 => absurd q2 (by rw [List.length_nil]; omega)) (.inl ⟨rfl, rfl⟩) (by omega) (by rw [List.length_nil]; omega) Th104 Eh104 gL108_0 gL108_1 gL108_2
      · exfalso; omega
    · exfalso; omega
end GN
