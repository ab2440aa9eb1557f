/-! ===== text of the class: all of it ===== -/
theorem cw_X_imp {X : cv_X} {mi pc : Nat} {Q R : cv_O → Prop} {L : cv_L} {st : List cv_V} {h : cv_H} (a : cw_X X mi Q pc L st h) (f : ∀ o, Q o → R o) : cw_X X mi R pc L st h := by
  obtain ⟨o, e, q⟩ := a
  exact ⟨o, e, f o q⟩
theorem ef_may_no {W : ef_W} {k i : Nat} (h : W.all (fun w => !(w.1 == k)) = true) : ef_may W k i = false := by
  unfold ef_may
  rw [List.any_eq_false]
  intro w hw
  have := List.all_eq_true.mp h w hw
  rw [Bool.not_eq_true'] at this
  rw [this]
  exact Bool.false_ne_true
def zRX (sp : Nat) : ef_W := if sp = 26 then ec_X5_readText_0.2.2.2.2.2 else ec_X5_readText_1.2.2.2.2.2
theorem zRX_c {sp k i : Nat} (hs : sp = 2 ∨ sp = 26) (h1 : k < sp ∨ sp + 24 ≤ k) (h50 : k ≠ 50) (h51 : k ≠ 51) (h53 : k ≠ 53) (h54 : k ≠ 54) : ef_may (zRX sp) k i = false := by
  refine ef_may_no (List.all_eq_true.mpr (fun w hw => ?_))
  have c : (zRX sp).all (fun w => (Nat.ble sp w.1 && Nat.ble (w.1 + 1) (sp + 24)) || (w.1 == 50 || (w.1 == 51 || (w.1 == 53 || w.1 == 54)))) = true := by
    rcases hs with rfl | rfl <;> decide
  have q := List.all_eq_true.mp c w hw
  simp only [Bool.or_eq_true, Bool.and_eq_true, Nat.ble_eq, beq_iff_eq] at q
  rw [Bool.not_eq_true', beq_eq_false_iff_ne]
  omega
theorem ef_fok_e {T : ef_T} {h h' : cv_H} (e : ∀ t, t ∈ T → cw_at h' t.1 t.2.1 = cw_at h t.1 t.2.1) (a : ef_fok T h) : ef_fok T h' := fun t ht => by
  obtain ⟨c, hc, q⟩ := a t ht
  exact ⟨c, hc, (e t ht).trans q⟩
theorem ef_rok_e {R : ef_U} {h h' : cv_H} (e : ∀ t, t ∈ R → ∀ i, cw_at h' t.1 i = cw_at h t.1 i) (a : ef_rok R h) : ef_rok R h' := fun t ht i v q => a t ht i v ((e t ht i).symm.trans q)
theorem ef_w01 {h h' : cv_H} {v : cv_V} (w : cw_Wr h h' 0 1 v) (a : ef_fok ec_TF h) (b : ef_rok ec_TR h) : ef_fok ec_TF h' ∧ ef_rok ec_TR h' := by
  refine ⟨ef_fok_e (fun t ht => w.2.1 _ _ ?_) a, ef_rok_e (fun t ht i => w.2.1 _ _ (.inl ?_)) b⟩
  · have c : ec_TF.all (fun t => !(t.1 == 0) || !(t.2.1 == 1)) = true := by decide
    have q := List.all_eq_true.mp c t ht
    simp only [Bool.or_eq_true, Bool.not_eq_true', beq_eq_false_iff_ne] at q
    exact q
  · have c : ec_TR.all (fun t => !(t.1 == 0)) = true := by decide
    have q := List.all_eq_true.mp c t ht
    simp only [Bool.not_eq_true', beq_eq_false_iff_ne] at q
    exact q
theorem ef_ok_i {x : Int32} : ef_ok (some []) (cv_i x) := fun l e => by cases e; exact .inl ⟨rfl, rfl⟩
/-- what a text that fails may change -/
def zTF (sp : Nat) (h h' : cv_H) : Prop := (∀ k i, k ≠ 0 → (k < sp ∨ sp + 24 ≤ k) → k ≠ 50 → k ≠ 51 → k ≠ 53 → k ≠ 54 → cw_at h' k i = cw_at h k i) ∧ ∀ i, i ≠ 1 → cw_at h' 0 i = cw_at h 0 i
/-- what a text makes of the class -/
def zTz (S : (Int × Nat) ⊕ (zSg × Int)) (d : zDt) (pl sp : Nat) (h0 h : cv_H) : Prop := match S with
  | .inl _ => zTF sp h0 h
  | .inr (s, _) => ∃ hm, zTF sp h0 hm ∧ zPM sp hm ∧ zSC sp hm s ∧ zWD sp hm s d ∧ zDR s d ∧ zTS hm h pl sp (d.1 14) (d.1 15) s.2.2.2.2.2.length
section GN
variable {G : Int} {X : cv_X} {Q : cv_O → Prop} {h0 h : cv_H} {t : Nat → Int}
theorem ct_rdE {n : Nat} (ht : ∀ i, t i = ri_at h0 1 i % 256) (hwd : ∀ i, i < 34 → ri_at h0 52 i = tz_wc.getD i 0) (hn9 : n ≤ 900) (hT : cw_T G h0) {b : Nat} (hb : b = 2 ∨ b = 26) (hpm : zPM b h0) (hrp : ∀ i, i < 4 → cw_at h0 (b + 16 + 2 * i) 16 = some (cv_r (b + 16 + 2 * i + 1))) (hTF : ef_fok ec_TF h0) (hTR : ef_rok ec_TR h0) {N : Int32} (hN : N.toInt = n) (hQ : ∀ (x : Int32) h', cw_T G h' → zTc (ztx t n 901 0 (0, (fun _ => 0), 0, [], [], []) 0) x h' → zXd (ztx t n 901 0 (0, (fun _ => 0), 0, [], [], []) 0) b (ztD t n 901 (0, (fun _ => 0), 0, [], [], []) 0 zD0) h' → ef_fr (zRX b) h0 h' → Q (some (cv_i x), h')) : cw_X X 60 Q 0 (cv_ent 0 [cv_r 50, cv_r b, cv_i N]) [] h0 := by
  have a := ct_readTextD (X := X) (Q := fun o => ∃ (x : Int32) (hb : cv_H), o = (some (cv_i x), hb) ∧ cw_T G hb ∧ zTc (ztx t n 901 0 (0, (fun _ => 0), 0, [], [], []) 0) x hb ∧ zXd (ztx t n 901 0 (0, (fun _ => 0), 0, [], [], []) 0) b (ztD t n 901 (0, (fun _ => 0), 0, [], [], []) 0 zD0) hb) ht hwd hn9 hT hb hpm hrp hN (fun x hb b1 _ b3 b4 => ⟨x, hb, rfl, b1, b3, b4⟩)
  rcases hb with rfl | rfl
  · have c := ef_X ec_run (K := ec_X5_readText_1) (List.mem_of_getElem? (i := 104) rfl) (show ef_zok [some [50], some [2], some []] [cv_r 50, cv_r 2, cv_i N] from ⟨ef_ok_some (by decide), ef_ok_some (by decide), ef_ok_i, trivial⟩) hTF hTR (fun t ht => absurd (show t ∈ ([] : ef_T) from ht) List.not_mem_nil) a
    refine cw_X_imp c (fun o q => ?_)
    obtain ⟨⟨x, hb, rfl, b1, b3, b4⟩, c1, c2, c3, c4, c5⟩ := q
    exact hQ x hb b1 b3 b4 c4
  · have c := ef_X ec_run (K := ec_X5_readText_0) (List.mem_of_getElem? (i := 52) rfl) (show ef_zok [some [50], some [26], some []] [cv_r 50, cv_r 26, cv_i N] from ⟨ef_ok_some (by decide), ef_ok_some (by decide), ef_ok_i, trivial⟩) hTF hTR (fun t ht => absurd (show t ∈ ([] : ef_T) from ht) List.not_mem_nil) a
    refine cw_X_imp c (fun o q => ?_)
    obtain ⟨⟨x, hb, rfl, b1, b3, b4⟩, c1, c2, c3, c4, c5⟩ := q
    exact hQ x hb b1 b3 b4 c4
theorem zRX_p {sp j : Nat} (hs : sp = 2 ∨ sp = 26) (hj : j ∈ ([0, 1, 4, 5, 6, 7, 8, 10, 11, 12, 13, 15, 16, 17, 18] : List Nat)) : ef_may (zRX sp) sp j = false := by
  have c : ([0, 1, 4, 5, 6, 7, 8, 10, 11, 12, 13, 15, 16, 17, 18] : List Nat).all (fun j => !ef_may (zRX sp) sp j) = true := by rcases hs with rfl | rfl <;> decide
  have q := List.all_eq_true.mp c j hj
  rwa [Bool.not_eq_true'] at q
theorem zRX_q {sp j : Nat} (hs : sp = 2 ∨ sp = 26) : ef_may (zRX sp) (sp + 6) j = false := by
  refine ef_may_no ?_
  rcases hs with rfl | rfl <;> decide
set_option maxHeartbeats 8000000 in
theorem ct_text4 (hT : cw_T G h0) (n : Int32) (ht : ∀ i, t i = ri_at h0 1 i % 256) (hwd : ∀ i, i < 34 → ri_at h0 52 i = tz_wc.getD i 0) (hw5 : ∀ p, p ≤ n.toInt.toNat → zk t n.toInt.toNat p = 5 → 0 ≤ zw t n.toInt.toNat p ∧ zw t n.toInt.toNat p ≤ 5) {pl sp : Nat} (hp4 : cw_sh[pl]? = some 4) (hs4 : cw_sh[sp]? = some 4) (hp2 : cw_at h0 0 2 = some (cv_r pl)) (hp3 : cw_at h0 0 3 = some (cv_r sp)) (hpm : zPM sp h0) (hrp : ∀ i, i < 4 → cw_at h0 (sp + 16 + 2 * i) 16 = some (cv_r (sp + 16 + 2 * i + 1))) (hTF : ef_fok ec_TF h0) (hTR : ef_rok ec_TR h0) (kC : zKC h0) (hQ1 : ∀ x : Int32, x.toInt = -2 → (n.toInt < 0 ∨ ri_at h0 0 1 < n.toInt) → Q (some (cv_i x), h0)) (hQ2 : 0 ≤ n.toInt → n.toInt ≤ ri_at h0 0 1 → ∀ (x : Int32) h', cw_T G h' → zTc (ztx t n.toInt.toNat 901 0 (0, (fun _ => 0), 0, [], [], []) 0) x h' → ri_at h' 0 1 = 0 → zTz (ztx t n.toInt.toNat 901 0 (0, (fun _ => 0), 0, [], [], []) 0) (ztD t n.toInt.toNat 901 (0, (fun _ => 0), 0, [], [], []) 0 zD0) pl sp h0 h' → Q (some (cv_i x), h')) : cw_X X 109 Q 0 (cv_ent 0 [cv_r 0, cv_i n]) [] h0 := by
  refine ex_il oq_X11_text_0 rfl ?_
  refine ex_if0 oq_X11_text_1 (t := 12) rfl rfl (fun (c101 : n.toInt < 0) => ?_) (fun (c101 : ¬ (n.toInt < 0)) => ?_)
  · refine ex_bi oq_X11_text_12 (m := (-2)) (by decide) (fun x102 hx102 => ?_)
    exact ex_reti oq_X11_text_14 rfl (hQ1 x102 (by omega) (by omega))
  · refine ex_il oq_X11_text_4 rfl ?_
    refine ex_al oq_X11_text_5 rfl ?_
    obtain ⟨x103, ax103, rx103, lx103, ux103⟩ := ri_fld (k := 0) (d := 11) (f := 1) hT rfl rfl rfl
    try dsimp only at lx103 ux103
    refine ex_gf oq_X11_text_6 hT (k := 0) (d := 11) rfl rfl ax103 ?_
    refine ex_if oq_X11_text_9 (t := 15) rfl rfl (fun (c104 : n.toInt ≤ x103.toInt) => ?_) (fun (c104 : ¬ (n.toInt ≤ x103.toInt)) => ?_)
    · refine ex_al oq_X11_text_15 rfl ?_
      refine ex_ic oq_X11_text_16 (m := 0) (by decide) (fun x105 hx105 => ?_)
      refine ex_pfi oq_X11_text_17 hT (k := 0) (d := 11) rfl rfl rfl (by omega) (by omega) (fun h106 Th106 wh106 => ?_)
      refine ex_al oq_X11_text_20 rfl ?_
      refine ex_gf oq_X11_text_21 Th106 (k := 0) (d := 11) rfl rfl (ri_ref (k := 0) (k' := 50) (d := 11) (f := 4) Th106 rfl rfl rfl (by decide) (ri_uniq (by decide +kernel))) ?_
      refine ex_al oq_X11_text_24 rfl ?_
      refine ex_gf oq_X11_text_25 Th106 (k := 0) (d := 11) rfl rfl (((wh106.2.1 0 3 (.inr (by decide))).trans hp3)) ?_
      refine ex_il oq_X11_text_28 rfl ?_
      have hs226 := sh_4 hs4
      have ef1 := ef_w01 wh106 hTF hTR
      refine ex_cv oq_X11_text_29 (by decide) Th106 (k := 50) (d := 5) (as := [cv_r sp, cv_i n]) (stk := []) rfl rfl rfl rfl rfl rfl ⟨rfl, rfl⟩ (R := fun o => ∃ (x : Int32) (hb : cv_H), o = (some (cv_i x), hb) ∧ cw_T G hb ∧ zTc (ztx t n.toInt.toNat 901 0 (0, (fun _ => 0), 0, [], [], []) 0) x hb ∧ zXd (ztx t n.toInt.toNat 901 0 (0, (fun _ => 0), 0, [], [], []) 0) sp (ztD t n.toInt.toNat 901 (0, (fun _ => 0), 0, [], [], []) 0 zD0) hb ∧ ef_fr (zRX sp) h106 hb) (ct_rdE (t := t) (n := n.toInt.toNat) (fun i => by rw [ht, ri_ne wh106 (.inl (by decide))]) (fun i hi => by rw [ri_ne wh106 (.inl (by decide))]; exact hwd i hi) (by omega) Th106 hs226 (zPM_w hs226 (.inl rfl) wh106 hpm) (fun i hi => (wh106.2.1 _ _ (.inl (by omega))).trans (hrp i hi)) ef1.1 ef1.2 (N := n) (by omega) (fun x hb b1 b2 b3 b4 => ⟨x, hb, rfl, b1, b2, b3, b4⟩)) (fun o ho => ?_)
      obtain ⟨x107, h108, rfl, Th108, ex107, zh108, fh108⟩ := ho
      show cw_X _ _ _ _ _ [cv_i x107] h108
      have Fh108 : zTF sp h0 h108 := ⟨fun k i a b c d e f => (fh108 k i (zRX_c hs226 b c d e f)).trans (wh106.2.1 k i (.inl a)), fun i a => (fh108 0 i (zRX_c hs226 (by omega) (by decide) (by decide) (by decide) (by decide))).trans (wh106.2.1 0 i (.inr a))⟩
      refine ex_isA oq_X11_text_32 (fun L109 gL109_2 kL109 => ?_)
      have gL109_0 : cv_get L109 0 = some (cv_r 0) := kL109 0 _ (by decide) (fun q => absurd q (by decide)) rfl
      have gL109_1 : cv_get L109 1 = some (cv_i n) := kL109 1 _ (by decide) (fun _ => rfl) rfl
      refine ex_il oq_X11_text_33 gL109_2 ?_
      refine ex_ic oq_X11_text_34 (m := (-1)) (by decide) (fun x110 hx110 => ?_)
      refine ex_if oq_X11_text_35 (t := 42) rfl rfl (fun (c111 : x107.toInt = x110.toInt) => ?_) (fun (c111 : ¬ (x107.toInt = x110.toInt)) => ?_)
      · refine ex_il oq_X11_text_42 gL109_2 ?_
        obtain ⟨q1, eS⟩ : ∃ q1, ztx t n.toInt.toNat 901 0 (0, (fun _ => 0), 0, [], [], []) 0 = .inl q1 := by
          cases eS : ztx t n.toInt.toNat 901 0 (0, (fun _ => 0), 0, [], [], []) 0 with
          | inl q => exact ⟨q, rfl⟩
          | inr q =>
            obtain ⟨s1, k1⟩ := q
            rw [eS] at ex107
            have := ztx_k _ _ _ _ _ _ eS
            exact absurd ex107.1 (by omega)
        exact ex_reti oq_X11_text_43 rfl (hQ2 (by omega) (by omega) x107 h108 Th108 ex107 ((ri_eq (fh108 0 1 (zRX_c hs226 (by omega) (by decide) (by decide) (by decide) (by decide)))).trans ((ri_self wh106).trans (by omega))) (by rw [eS]; exact Fh108))
      · refine ex_al oq_X11_text_38 gL109_0 ?_
        obtain ⟨s1, k1, eS⟩ : ∃ s1 k1, ztx t n.toInt.toNat 901 0 (0, (fun _ => 0), 0, [], [], []) 0 = .inr (s1, k1) := by
          cases eS : ztx t n.toInt.toNat 901 0 (0, (fun _ => 0), 0, [], [], []) 0 with
          | inl q => rw [eS] at ex107; exact absurd ex107.1 (by omega)
          | inr q => exact ⟨q.1, q.2, rfl⟩
        have zx := zh108
        rw [eS] at zx
        obtain ⟨zs, zw⟩ := zx
        have dr : zDR s1 (ztD t n.toInt.toNat 901 (0, (fun _ => 0), 0, [], [], []) 0 zD0) := ztD_R (by omega) hw5 901 0 _ 0 _ _ _ (Nat.zero_le _) eS zDR_0 (by omega)
        have pm : zPM sp h108 := ⟨fun j q => (fh108 sp j (zRX_p hs226 q)).trans ((zPM_w hs226 (.inl rfl) wh106 hpm).1 j q), fun j q => (fh108 (sp + 6) j (zRX_q hs226)).trans ((zPM_w hs226 (.inl rfl) wh106 hpm).2 j q)⟩
        refine ex_cv oq_X11_text_39 (by decide) Th108 (k := 0) (d := 11) (as := []) (stk := []) rfl rfl rfl rfl rfl rfl ⟨rfl, rfl⟩ (R := fun o => ∃ hb : cv_H, o = (none, hb) ∧ cw_T G hb ∧ zTS h108 hb pl sp ((ztD t n.toInt.toNat 901 (0, (fun _ => 0), 0, [], [], []) 0 zD0).1 14) ((ztD t n.toInt.toNat 901 (0, (fun _ => 0), 0, [], [], []) 0 zD0).1 15) s1.2.2.2.2.2.length) (ct_tsD Th108 (dk := (ztD t n.toInt.toNat 901 (0, (fun _ => 0), 0, [], [], []) 0 zD0).1 14) (dv := (ztD t n.toInt.toNat 901 (0, (fun _ => 0), 0, [], [], []) 0 zD0).1 15) (n := s1.2.2.2.2.2.length) hs4 pm zs.2.2.2.2.2.1.1 dr.1.2.2.2 (fun c q => by have := zw.2.1.2 14 (by decide) c (by have := dr.1.1.2.2.1; omega); rwa [Nat.zero_add] at this) (fun c q => by have := zw.2.1.2 15 (by decide) c (by have := dr.1.1.2.2.2; omega); rwa [Nat.zero_add] at this) (fun c => (zPD_T (e := fun _ => 0) dr).2.2.2.2.1 c) (fun g q => by rw [(zw.2.2.2.1 g q).2]; obtain ⟨_, _, _, _, u⟩ := dr.2.2.2.1 g q; exact u) (fun g q => ⟨(Fh108.1 61 g (by decide) (by omega) (by decide) (by decide) (by decide) (by decide)).trans (kC g q).1, (Fh108.1 62 g (by decide) (by omega) (by decide) (by decide) (by decide) (by decide)).trans (kC g q).2⟩) hp4 ((Fh108.2 2 (by decide)).trans hp2) ((Fh108.2 3 (by decide)).trans hp3) (fun hb b1 b2 => ⟨hb, rfl, b1, b2⟩)) (fun o ho => ?_)
        obtain ⟨h112, rfl, Th112, ts⟩ := ho
        show cw_X _ _ _ _ _ [] h112
        refine ex_il oq_X11_text_42 gL109_2 ?_
        have e50 : ∀ i, ri_at h112 50 i = ri_at h108 50 i := fun i => ri_eq (at_h (ts.1 50 (by decide) (by decide) (by decide) (by decide) (by decide) (fun g _ => by omega)))
        refine ex_reti oq_X11_text_43 rfl (hQ2 (by omega) (by omega) x107 h112 Th112 ?_ ((ri_eq (ts.2.1 1 (by decide) (by decide) (by decide) (by decide))).trans ((ri_eq (fh108 0 1 (zRX_c hs226 (by omega) (by decide) (by decide) (by decide) (by decide)))).trans ((ri_self wh106).trans (by omega)))) (by rw [eS]; exact ⟨h108, Fh108, pm, zs, zw, dr, ts⟩))
        have q := ex107
        rw [eS] at q ⊢
        exact ⟨q.1, (e50 4).trans q.2.1, (e50 5).trans q.2.2⟩
    · refine ex_bi oq_X11_text_12 (m := (-2)) (by decide) (fun x113 hx113 => ?_)
      exact ex_reti oq_X11_text_14 rfl (hQ1 x113 (by omega) (by omega))
end GN
