/-! ===== weeks of all gates: the class ===== -/
/-- kinds of a plan's cells -/
theorem zKi {b : Nat} (hb : b = 2 ∨ b = 26) : cw_sh[b]? = some 4 ∧ cw_sh[b + 1]? = some 28 ∧ cw_sh[b + 2]? = some 29 ∧ cw_sh[b + 3]? = some 30 ∧ cw_sh[b + 4]? = some 31 ∧ cw_sh[b + 5]? = some 32 ∧ cw_sh[b + 14]? = some 41 ∧ cw_sh[b + 15]? = some 42 := by
  rcases hb with rfl | rfl <;> exact ⟨rfl, rfl, rfl, rfl, rfl, rfl, rfl, rfl⟩
theorem zKi_7 {b g : Nat} (hb : b = 2 ∨ b = 26) (hg : g < 4) : cw_sh[b + 16 + 2 * g]? = some 7 := by
  have : g = 0 ∨ g = 1 ∨ g = 2 ∨ g = 3 := by omega
  rcases hb with rfl | rfl <;> rcases this with rfl | rfl | rfl | rfl <;> rfl
/-- a plan's pointers -/
def zKP (h : cv_H) (b : Nat) : Prop := cw_at h b 0 = some (cv_r (b + 1)) ∧ cw_at h b 1 = some (cv_r (b + 2)) ∧ cw_at h b 4 = some (cv_r (b + 3)) ∧ cw_at h b 5 = some (cv_r (b + 4)) ∧ cw_at h b 6 = some (cv_r (b + 5)) ∧ cw_at h b 17 = some (cv_r (b + 14)) ∧ cw_at h b 18 = some (cv_r (b + 15))
/-- the class holds a plan -/
def zKH (h : cv_H) (b ng n : Nat) (Ts : Nat → Nat → Int) (f : Nat → Int) (LL : Nat → Option (List Int)) (dk dv : List Int) : Prop := ri_at h b 9 = ng ∧ ri_at h b 19 = n ∧ (∀ g, g < ng → zTV h (b + 16 + 2 * g) (Ts g)) ∧ (∀ j, j < 12 → ri_at h (b + 1) j = f j) ∧ (∀ l, l < 4 → zLw h (b + 2) (b + 3) (b + 4) (b + 5) l (LL l)) ∧ (∀ c, c < n → ri_at h (b + 14) c = dk.getD c 0) ∧ ∀ c, c < n → ri_at h (b + 15) c = dv.getD c 0
/-- the class holds the gates -/
def zKG (h : cv_H) (b ng : Nat) (Kg : Nat → Nat) (γs : Nat → Nat → Int) : Prop := ∀ g, g < ng → zGV h (Kg g) (γs g) ∧ cw_at h (Kg g) 0 = some (cv_r (b + 16 + 2 * g))
/-- which cells the gates are -/
def zKK (h : cv_H) (ng : Nat) (Kg : Nat → Nat) : Prop := (∀ g, g < ng → cw_sh[Kg g]? = some 1 ∧ cw_at h 61 g = some (cv_r (Kg g))) ∧ ∀ g g', g < ng → g' < ng → Kg g = Kg g' → g = g'
theorem rk_inj {a b : Nat} (h : (some (cv_r a) : Option cv_V) = some (cv_r b)) : a = b := by cases h; rfl
/-- gates before gi by a, the others by b -/
def zMx (gi : Nat) (a b : Nat → Nat → Int) (g : Nat) : Nat → Int := if g < gi then a g else b g
theorem zMx_1 {gi g : Nat} {a b : Nat → Nat → Int} (h : g < gi) : zMx gi a b g = a g := by unfold zMx; rw [if_pos h]
theorem zMx_2 {gi g : Nat} {a b : Nat → Nat → Int} (h : ¬ g < gi) : zMx gi a b g = b g := by unfold zMx; rw [if_neg h]
/-- what weeks may change -/
def zKW (ng : Nat) (Kg : Nat → Nat) (h h' : cv_H) : Prop := (∀ k : Nat, k ≠ 0 → k ≠ 55 → k ≠ 56 → k ≠ 57 → k ≠ 58 → (∀ g, g < ng → k ≠ Kg g) → h'[k]? = h[k]?) ∧ (∀ i, i ≠ 3 → i ≠ 4 → cw_at h' 55 i = cw_at h 55 i) ∧ ∀ i, i ≠ 8 → cw_at h' 0 i = cw_at h 0 i
theorem zKW_0 {ng : Nat} {Kg : Nat → Nat} {h : cv_H} : zKW ng Kg h h := ⟨fun _ _ _ _ _ _ _ => rfl, fun _ _ _ => rfl, fun _ _ => rfl⟩
theorem zKW_tr {ng : Nat} {Kg : Nat → Nat} {h h' h'' : cv_H} (a : zKW ng Kg h h') (b : zKW ng Kg h' h'') : zKW ng Kg h h'' := ⟨fun k p q r s t u => (b.1 k p q r s t u).trans (a.1 k p q r s t u), fun i p q => (b.2.1 i p q).trans (a.2.1 i p q), fun i p => (b.2.2 i p).trans (a.2.2 i p)⟩
theorem zKW_p {ng gi : Nat} {Kg : Nat → Nat} {h h' : cv_H} (hg : gi < ng) (hK : cw_sh[Kg gi]? = some 1) (z : zPF (Kg gi) h h') : zKW ng Kg h h' := ⟨fun k _ q r s t u => z.1 k q r s t (u gi hg), z.2, fun i _ => zPF_at z hK (k := 0) (d := 11) rfl (by decide)⟩
theorem zKW_w {ng : Nat} {Kg : Nat → Nat} {h h' : cv_H} {v : cv_V} (w : cw_Wr h h' 0 8 v) : zKW ng Kg h h' := ⟨fun k p _ _ _ _ _ => w.2.2 k p, fun i _ _ => w.2.1 55 i (.inl (by decide)), fun i p => w.2.1 0 i (.inr p)⟩
theorem zKW_at {ng : Nat} {Kg : Nat → Nat} {h h' : cv_H} {k d i : Nat} (z : zKW ng Kg h h') (hKg : ∀ g, g < ng → cw_sh[Kg g]? = some 1) (hk : cw_sh[k]? = some d) (hd : (!(d == 11) && (!(d == 2) && (!(d == 17) && (!(d == 18) && (!(d == 19) && !(d == 1)))))) = true) : cw_at h' k i = cw_at h k i := by
  simp only [Bool.and_eq_true, Bool.not_eq_true', beq_eq_false_iff_ne, ne_eq] at hd
  unfold cw_at
  rw [z.1 k (cw_kne (k := k) (d := d) (k' := 0) (d' := 11) hk rfl hd.1) (cw_kne (k := k) (d := d) (k' := 55) (d' := 2) hk rfl hd.2.1) (cw_kne (k := k) (d := d) (k' := 56) (d' := 17) hk rfl hd.2.2.1) (cw_kne (k := k) (d := d) (k' := 57) (d' := 18) hk rfl hd.2.2.2.1) (cw_kne (k := k) (d := d) (k' := 58) (d' := 19) hk rfl hd.2.2.2.2.1) (fun g q => cw_kne (k := k) (d := d) (k' := Kg g) (d' := 1) hk (hKg g q) hd.2.2.2.2.2)]
theorem zKW_ri {ng : Nat} {Kg : Nat → Nat} {h h' : cv_H} {k d i : Nat} (z : zKW ng Kg h h') (hKg : ∀ g, g < ng → cw_sh[Kg g]? = some 1) (hk : cw_sh[k]? = some d) (hd : (!(d == 11) && (!(d == 2) && (!(d == 17) && (!(d == 18) && (!(d == 19) && !(d == 1)))))) = true) : ri_at h' k i = ri_at h k i := ri_eq (zKW_at z hKg hk hd)
theorem zKP_W {ng b : Nat} {Kg : Nat → Nat} {h h' : cv_H} (z : zKW ng Kg h h') (hKg : ∀ g, g < ng → cw_sh[Kg g]? = some 1) (hb : cw_sh[b]? = some 4) (a : zKP h b) : zKP h' b := by
  obtain ⟨a0, a1, a2, a3, a4, a5, a6⟩ := a
  have e : ∀ i, cw_at h' b i = cw_at h b i := fun i => zKW_at z hKg hb (by decide)
  exact ⟨(e _).trans a0, (e _).trans a1, (e _).trans a2, (e _).trans a3, (e _).trans a4, (e _).trans a5, (e _).trans a6⟩
theorem zKH_W {ng b n : Nat} {Kg : Nat → Nat} {h h' : cv_H} {Ts : Nat → Nat → Int} {f : Nat → Int} {LL : Nat → Option (List Int)} {dk dv : List Int} (z : zKW ng Kg h h') (hKg : ∀ g, g < ng → cw_sh[Kg g]? = some 1) (hb : b = 2 ∨ b = 26) (hng : ng ≤ 4) (a : zKH h b ng n Ts f LL dk dv) : zKH h' b ng n Ts f LL dk dv := by
  obtain ⟨a1, a2, a3, a4, a5, a6, a7⟩ := a
  obtain ⟨k0, k1, k2, k3, k4, k5, k14, k15⟩ := zKi hb
  refine ⟨(zKW_ri z hKg k0 (by decide)).trans a1, (zKW_ri z hKg k0 (by decide)).trans a2, fun g q j r => (zKW_ri z hKg (zKi_7 hb (by omega)) (by decide)).trans (a3 g q j r), fun j q => (zKW_ri z hKg k1 (by decide)).trans (a4 j q), fun l q => zLw_eq (a5 l q) (fun k i hk => ?_), fun c q => (zKW_ri z hKg k14 (by decide)).trans (a6 c q), fun c q => (zKW_ri z hKg k15 (by decide)).trans (a7 c q)⟩
  rcases hk with rfl | rfl | rfl | rfl
  · exact zKW_ri z hKg k2 (by decide)
  · exact zKW_ri z hKg k3 (by decide)
  · exact zKW_ri z hKg k4 (by decide)
  · exact zKW_ri z hKg k5 (by decide)
theorem zKK_W {ng : Nat} {Kg : Nat → Nat} {h h' : cv_H} (z : zKW ng Kg h h') (a : zKK h ng Kg) : zKK h' ng Kg := ⟨fun g q => ⟨(a.1 g q).1, (zKW_at z (fun g q => (a.1 g q).1) (k := 61) (d := 14) rfl (by decide)).trans (a.1 g q).2⟩, a.2⟩
section GN
variable {G : Int} {X : cv_X} {Q : cv_O → Prop} {h0 h : cv_H}
section WK
variable {b ng n : Nat} {Kg : Nat → Nat} {Ts γs : Nat → Nat → Int} {f : Nat → Int} {LL : Nat → Option (List Int)} {dk dv : List Int}
/-- one gate's weeks, from the heap's facts -/
theorem cl_passD (hT : cw_T G h) (hb : b = 2 ∨ b = 26) (P : zPD ng n Ts f dk dv) (kP : zKP h b) (D : zKH h b ng n Ts f LL dk dv) (hKg : ∀ g, g < ng → cw_sh[Kg g]? = some 1) {gi : Nat} (hgi : gi < ng) {F N : Int32} {m : Nat} (hN : N.toInt = m) (hFN : 0 ≤ F.toInt ∧ F.toInt ≤ 1000000 ∧ m ≤ 1000000) {γ : Nat → Int} (gv : zGV h (Kg gi) γ) (rG : gGR γ) (hp : cw_at h (Kg gi) 0 = some (cv_r (b + 16 + 2 * gi))) (hLC : zLC h LL) (hQ : ∀ h', cw_T G h' → zPF (Kg gi) h h' → zGV h' (Kg gi) (gPs (Ts gi) f LL m F.toInt γ) → cw_at h' (Kg gi) 0 = some (cv_r (b + 16 + 2 * gi)) → zLC h' LL → Q (none, h')) : cw_X X 32 Q 0 (cv_ent 0 [cv_r 55, cv_r b, cv_r (Kg gi), cv_i F, cv_i N]) [] h := by
  obtain ⟨p1, p2, p3, p4, p5, p6⟩ := P
  obtain ⟨d1, d2, d3, d4, d5, d6, d7⟩ := D
  obtain ⟨a0, a1, a2, a3, a4, a5, a6⟩ := kP
  obtain ⟨k0, k1, k2, k3, k4, k5, k14, k15⟩ := zKi hb
  exact cl_pass k0 k2 k3 k4 k5 k1 (hKg gi hgi) (zKi_7 hb (by omega)) a1 a2 a3 a4 a0 d4 p4 (d3 gi hgi) (p3 gi hgi) (fun l q => d5 l (by omega)) hT hN hFN gv rG hp hLC hQ
theorem zLC_w {LL : Nat → Option (List Int)} {h h' : cv_H} {k i : Nat} {v : cv_V} (p : 55 ≠ k) (q : 56 ≠ k) (r : 58 ≠ k) (w : cw_Wr h h' k i v) (a : zLC h LL) : zLC h' LL := by
  obtain ⟨V, a1, a2⟩ := a
  refine ⟨V, ?_, fun l hl => ?_⟩
  · rcases a1 with a1 | ⟨S, b1, b2, b3⟩
    · exact .inl ((ri_ne w (.inl p)).trans a1)
    · exact .inr ⟨S, b1, (ri_ne w (.inl p)).trans b2, fun j hj ht => (rl_ne w (.inl q)).trans (b3 j hj ht)⟩
  · rcases a2 l hl with c | c
    · exact .inl ⟨(ri_ne w (.inl p)).trans c.1, fun z => (ri_ne w (.inl r)).trans (c.2 z)⟩
    · exact .inr ((ri_ne w (.inl r)).trans c)
set_option maxHeartbeats 4000000 in
theorem cl_wk (hb : b = 2 ∨ b = 26) (P : zPD ng n Ts f dk dv) (kP : zKP h0 b) (hD : zKH h0 b ng n Ts f LL dk dv) (hK : zKK h0 ng Kg) (gP : zGP ng n dk dv γs) (hp2 : cw_at h0 0 2 = some (cv_r b)) {W : Int} {N : Int32} {m : Nat} (hN : N.toInt = m) (hm : 0 ≤ W ∧ m ≤ 520 ∧ W + m ≤ 2000) (hQ : ∀ (x : Int32) h', cw_T G h' → zKW ng Kg h0 h' → x.toInt = W + m → ri_at h' 0 8 = W + m → zKG h' b ng Kg (fun i => gPs (Ts i) f LL m W (γs i)) → zLC h' LL → Q (some (cv_i x), h')) : ∀ (fu gi : Nat) (I : Int32) (h : cv_H) (L : cv_L), ng - gi = fu → gi ≤ ng → I.toInt = gi → cw_T G h → zKW ng Kg h0 h → ri_at h 0 8 = W → zKG h b ng Kg (zMx gi (fun i => gPs (Ts i) f LL m W (γs i)) γs) → zLC h LL → cv_get L 0 = some (cv_r 0) → cv_get L 1 = some (cv_i N) → cv_get L 2 = some (cv_i I) → cw_X X 121 Q 23 L [] h := by
  have hng := P.1
  have hk0 := (zKi hb).1
  have hKg : ∀ g, g < ng → cw_sh[Kg g]? = some 1 := fun g q => (hK.1 g q).1
  intro fu
  induction fu with
  | zero =>
    intro gi I h L hf hgi hI hT hF hW hs hLC g0 g1 g2
    refine ex_il oq_X11_weeks_23 g2 ?_
    refine ex_al oq_X11_weeks_24 g0 ?_
    refine ex_gf oq_X11_weeks_25 hT (k := 0) (d := 11) rfl rfl (((hF.2.2 2 (by decide)).trans hp2)) ?_
    obtain ⟨x101, ax101, rx101, lx101, ux101⟩ := ri_fld (k := b) (d := 4) (f := 9) hT hk0 rfl rfl
    try dsimp only at lx101 ux101
    refine ex_gf oq_X11_weeks_28 hT (k := b) (d := 4) hk0 rfl ax101 ?_
    have rx101 := (rx101.symm.trans (zKH_W hF hKg hb hng hD).1 : x101.toInt = (ng : Int))
    refine ex_if oq_X11_weeks_31 (t := 71) rfl rfl (fun (c102 : x101.toInt ≤ I.toInt) => ?_) (fun (c102 : ¬ (x101.toInt ≤ I.toInt)) => ?_)
    · refine ex_al oq_X11_weeks_71 g0 ?_
      refine ex_dup oq_X11_weeks_72 rfl ?_
      obtain ⟨x103, ax103, rx103, lx103, ux103⟩ := ri_fld (k := 0) (d := 11) (f := 8) hT rfl rfl rfl
      try dsimp only at lx103 ux103
      refine ex_gf oq_X11_weeks_73 hT (k := 0) (d := 11) rfl rfl ax103 ?_
      have rx103 := (rx103.symm.trans hW : x103.toInt = W)
      refine ex_il oq_X11_weeks_76 g1 ?_
      refine ex_add oq_X11_weeks_77 (by omega) (fun x104 hx104 => ?_)
      refine ex_pfi oq_X11_weeks_78 hT (k := 0) (d := 11) rfl rfl rfl (by omega) (by omega) (fun h105 Th105 wh105 => ?_)
      have eh105_b_9 : ri_at h105 b 9 = (ng : Int) := (ri_ne wh105 (.inl (cw_kne (k := b) (d := 4) (k' := 0) (d' := 11) hk0 rfl (by decide)))).trans (zKH_W hF hKg hb hng hD).1
      have qh105 : ri_at h105 0 8 = x104.toInt := ri_self wh105
      refine ex_al oq_X11_weeks_81 g0 ?_
      obtain ⟨x106, ax106, rx106, lx106, ux106⟩ := ri_fld (k := 0) (d := 11) (f := 8) Th105 rfl rfl rfl
      try dsimp only at lx106 ux106
      refine ex_gf oq_X11_weeks_82 Th105 (k := 0) (d := 11) rfl rfl ax106 ?_
      refine ex_reti oq_X11_weeks_85 rfl (hQ x106 h105 Th105 (zKW_tr hF (zKW_w wh105)) (by omega) (by omega) (fun g q => ⟨fun j r => (ri_ne wh105 (.inl (cw_kne (k := Kg g) (d := 1) (k' := 0) (d' := 11) (hKg g q) rfl (by decide)))).trans (((hs g q).1 j r).trans (by rw [zMx_1 (by omega)])), (wh105.2.1 _ _ (.inl (cw_kne (k := Kg g) (d := 1) (k' := 0) (d' := 11) (hKg g q) rfl (by decide)))).trans (hs g q).2⟩) ?_)
      exact zLC_w (by decide) (by decide) (by decide) wh105 hLC
    · exfalso; omega
  | succ fu ih =>
    intro gi I h L hf hgi hI hT hF hW hs hLC g0 g1 g2
    refine ex_il oq_X11_weeks_23 g2 ?_
    refine ex_al oq_X11_weeks_24 g0 ?_
    refine ex_gf oq_X11_weeks_25 hT (k := 0) (d := 11) rfl rfl (((hF.2.2 2 (by decide)).trans hp2)) ?_
    obtain ⟨x101, ax101, rx101, lx101, ux101⟩ := ri_fld (k := b) (d := 4) (f := 9) hT hk0 rfl rfl
    try dsimp only at lx101 ux101
    refine ex_gf oq_X11_weeks_28 hT (k := b) (d := 4) hk0 rfl ax101 ?_
    have rx101 := (rx101.symm.trans (zKH_W hF hKg hb hng hD).1 : x101.toInt = (ng : Int))
    refine ex_if oq_X11_weeks_31 (t := 71) rfl rfl (fun (c102 : x101.toInt ≤ I.toInt) => ?_) (fun (c102 : ¬ (x101.toInt ≤ I.toInt)) => ?_)
    · exfalso; omega
    · refine ex_il oq_X11_weeks_34 g2 ?_
      refine ex_al oq_X11_weeks_35 g0 ?_
      refine ex_gf oq_X11_weeks_36 hT (k := 0) (d := 11) rfl rfl (ri_ref (k := 0) (k' := 61) (d := 11) (f := 7) hT rfl rfl rfl (by decide) (ri_uniq (by decide +kernel))) ?_
      refine ex_lenr oq_X11_weeks_39 hT (k := 61) (d := 14) rfl rfl (by decide) (fun x103 hx103 => ?_)
      refine ex_if oq_X11_weeks_40 (t := 71) rfl rfl (fun (c104 : x103.toInt ≤ I.toInt) => ?_) (fun (c104 : ¬ (x103.toInt ≤ I.toInt)) => ?_)
      · exfalso; omega
      · refine ex_al oq_X11_weeks_43 g0 ?_
        refine ex_gf oq_X11_weeks_44 hT (k := 0) (d := 11) rfl rfl (ri_ref (k := 0) (k' := 55) (d := 11) (f := 5) hT rfl rfl rfl (by decide) (ri_uniq (by decide +kernel))) ?_
        refine ex_al oq_X11_weeks_47 g0 ?_
        refine ex_gf oq_X11_weeks_48 hT (k := 0) (d := 11) rfl rfl (((hF.2.2 2 (by decide)).trans hp2)) ?_
        refine ex_al oq_X11_weeks_51 g0 ?_
        refine ex_gf oq_X11_weeks_52 hT (k := 0) (d := 11) rfl rfl (ri_ref (k := 0) (k' := 61) (d := 11) (f := 7) hT rfl rfl rfl (by decide) (ri_uniq (by decide +kernel))) ?_
        refine ex_il oq_X11_weeks_55 g2 ?_
        refine ex_aa oq_X11_weeks_56 hT (k := 61) (d := 14) (j := gi) rfl rfl (by omega) (by omega) (fun k106 ak106 sk106 => ?_)
        have ek106 : k106 = Kg gi := rk_inj (ak106.symm.trans ((zKK_W hF hK).1 gi (by omega)).2)
        subst ek106
        refine ex_al oq_X11_weeks_57 g0 ?_
        obtain ⟨x107, ax107, rx107, lx107, ux107⟩ := ri_fld (k := 0) (d := 11) (f := 8) hT rfl rfl rfl
        try dsimp only at lx107 ux107
        refine ex_gf oq_X11_weeks_58 hT (k := 0) (d := 11) rfl rfl ax107 ?_
        have rx107 := (rx107.symm.trans hW : x107.toInt = W)
        refine ex_il oq_X11_weeks_61 g1 ?_
        refine ex_cv oq_X11_weeks_62 (by decide) hT (k := 55) (d := 2) (as := [cv_r b, cv_r (Kg gi), cv_i x107, cv_i N]) (stk := []) rfl rfl rfl rfl rfl rfl ⟨rfl, rfl⟩ (R := fun o => ∃ hb : cv_H, o = (none, hb) ∧ cw_T G hb ∧ zPF (Kg gi) h hb ∧ zGV hb (Kg gi) (gPs (Ts gi) f LL m x107.toInt (γs gi)) ∧ cw_at hb (Kg gi) 0 = some (cv_r (b + 16 + 2 * gi)) ∧ zLC hb LL) (cl_passD hT hb P (zKP_W hF hKg hk0 kP) (zKH_W hF hKg hb hng hD) hKg (gi := gi) (by omega) hN (by omega) (fun j r => ((hs gi (by omega)).1 j r).trans (by rw [zMx_2 (by omega)])) (gP gi (by omega)).1 (hs gi (by omega)).2 hLC (fun hb b1 b2 b3 b4 b5 => ⟨hb, rfl, b1, b2, b3, b4, b5⟩)) (fun o ho => ?_)
        obtain ⟨h108, rfl, Th108, zh108, Vh108, ph108, Ch108⟩ := ho
        show cw_X _ _ _ _ _ [] h108
        rw [show x107.toInt = W from by omega] at Vh108
        refine ex_incA oq_X11_weeks_65 (v := I) (m := 1) g2 (by decide) (by omega) (fun L110 x109 hx109 gL110_2 kL110 => ?_)
        have gL110_0 : cv_get L110 0 = some (cv_r 0) := kL110 0 _ (by decide) (fun q => absurd q (by decide)) g0
        have gL110_1 : cv_get L110 1 = some (cv_i N) := kL110 1 _ (by decide) (fun _ => rfl) g1
        refine ex_go oq_X11_weeks_68 (t := 23) rfl rfl ?_
        refine ih (gi + 1) x109 h108 L110 (by omega) (by omega) (by omega) Th108 (zKW_tr hF (zKW_p (by omega) (hKg gi (by omega)) zh108)) ((ri_eq (zPF_at zh108 (hKg gi (by omega)) (k := 0) (d := 11) rfl (by decide))).trans hW) (fun g q => ?_) Ch108 gL110_0 gL110_1 gL110_2
        by_cases cg : g = gi
        · subst cg
          exact ⟨fun j r => (Vh108 j r).trans (by rw [zMx_1 (by omega)]), ph108⟩
        · have ne : h108[Kg g]? = h[Kg g]? := zh108.1 _ (cw_kne (k := Kg g) (d := 1) (k' := 55) (d' := 2) (hKg g q) rfl (by decide)) (cw_kne (k := Kg g) (d := 1) (k' := 56) (d' := 17) (hKg g q) rfl (by decide)) (cw_kne (k := Kg g) (d := 1) (k' := 57) (d' := 18) (hKg g q) rfl (by decide)) (cw_kne (k := Kg g) (d := 1) (k' := 58) (d' := 19) (hKg g q) rfl (by decide)) (fun e => cg (hK.2 g gi q (by omega) e))
          have ne2 : ∀ i, cw_at h108 (Kg g) i = cw_at h (Kg g) i := fun i => by unfold cw_at; rw [ne]
          refine ⟨fun j r => (ri_eq (ne2 j)).trans (((hs g q).1 j r).trans ?_), (ne2 0).trans (hs g q).2⟩
          by_cases c2 : g < gi
          · rw [zMx_1 c2, zMx_1 (by omega)]
          · rw [zMx_2 c2, zMx_2 (by omega)]
theorem cl_weeks (hT : cw_T G h0) (hb : b = 2 ∨ b = 26) (P : zPD ng n Ts f dk dv) (kP : zKP h0 b) (hD : zKH h0 b ng n Ts f LL dk dv) (hK : zKK h0 ng Kg) (gP : zGP ng n dk dv γs) (hp2 : cw_at h0 0 2 = some (cv_r b)) (sG : zKG h0 b ng Kg γs) (hLC : zLC h0 LL) {W : Int} (hW : ri_at h0 0 8 = W) (hW0 : 0 ≤ W ∧ W ≤ 2000) {N : Int32} (hQ1 : ∀ x : Int32, x.toInt = -1 → ¬ (0 ≤ N.toInt ∧ N.toInt ≤ 520 ∧ W + N.toInt ≤ 2000) → Q (some (cv_i x), h0)) (hQ2 : ∀ m : Nat, N.toInt = m → m ≤ 520 ∧ W + m ≤ 2000 → ∀ (x : Int32) h', cw_T G h' → zKW ng Kg h0 h' → x.toInt = W + m → ri_at h' 0 8 = W + m → zKG h' b ng Kg (fun i => gPs (Ts i) f LL m W (γs i)) → zLC h' LL → Q (some (cv_i x), h')) : cw_X X 121 Q 0 (cv_ent 0 [cv_r 0, cv_i N]) [] h0 := by
  refine ex_il oq_X11_weeks_0 rfl ?_
  refine ex_cs oq_X11_weeks_1 (by decide) (as := [cv_i N]) (stk := []) rfl rfl rfl ⟨rfl, rfl⟩ (R := fun o => ∃ x : Int32, o = (some (cv_i x), h0) ∧ (x.toInt = 1 ∧ (0 ≤ N.toInt ∧ N.toInt ≤ 520) ∨ x.toInt = 0 ∧ ¬ (0 ≤ N.toInt ∧ N.toInt ≤ 520))) (ct_isAhead N (fun x q => ⟨x, rfl, q⟩)) (fun o ho => ?_)
  obtain ⟨x201, rfl, dx201⟩ := ho
  show cw_X _ _ _ _ _ [cv_i x201] h0
  refine ex_if0 oq_X11_weeks_4 (t := 19) rfl rfl (fun (c202 : x201.toInt = 0) => ?_) (fun (c202 : ¬ (x201.toInt = 0)) => ?_)
  · refine ex_ic oq_X11_weeks_19 (m := (-1)) (by decide) (fun x203 hx203 => ?_)
    exact ex_reti oq_X11_weeks_20 rfl (hQ1 x203 (by omega) (by omega))
  · refine ex_al oq_X11_weeks_7 rfl ?_
    obtain ⟨x204, ax204, rx204, lx204, ux204⟩ := ri_fld (k := 0) (d := 11) (f := 8) hT rfl rfl rfl
    try dsimp only at lx204 ux204
    refine ex_gf oq_X11_weeks_8 hT (k := 0) (d := 11) rfl rfl ax204 ?_
    have rx204 := (rx204.symm.trans hW : x204.toInt = W)
    refine ex_il oq_X11_weeks_11 rfl ?_
    refine ex_add oq_X11_weeks_12 (by omega) (fun x205 hx205 => ?_)
    refine ex_si oq_X11_weeks_13 (m := 2000) (by decide) (fun x206 hx206 => ?_)
    refine ex_if oq_X11_weeks_16 (t := 21) rfl rfl (fun (c207 : x205.toInt ≤ x206.toInt) => ?_) (fun (c207 : ¬ (x205.toInt ≤ x206.toInt)) => ?_)
    · refine ex_ic oq_X11_weeks_21 (m := 0) (by decide) (fun x208 hx208 => ?_)
      refine ex_isA oq_X11_weeks_22 (fun L209 gL209_2 kL209 => ?_)
      have gL209_0 : cv_get L209 0 = some (cv_r 0) := kL209 0 _ (by decide) (fun q => absurd q (by decide)) rfl
      have gL209_1 : cv_get L209 1 = some (cv_i N) := kL209 1 _ (by decide) (fun _ => rfl) rfl
      obtain ⟨m, hm⟩ : ∃ m : Nat, N.toInt = m := ⟨N.toInt.toNat, by omega⟩
      exact cl_wk hb P kP hD hK gP hp2 (N := N) (m := m) hm ⟨by omega, by omega, by omega⟩ (fun x h' b1 b2 b3 b4 b5 b6 => hQ2 m hm (by omega) x h' b1 b2 b3 b4 b5 b6) ng 0 x208 h0 L209 (by omega) (by omega) (by omega) hT zKW_0 hW (fun g q => ⟨fun j r => ((sG g q).1 j r).trans (by rw [zMx_2 (by omega)]), (sG g q).2⟩) hLC gL209_0 gL209_1 gL209_2
    · refine ex_ic oq_X11_weeks_19 (m := (-1)) (by decide) (fun x210 hx210 => ?_)
      exact ex_reti oq_X11_weeks_20 rfl (hQ1 x210 (by omega) (by omega))
end WK
end GN
