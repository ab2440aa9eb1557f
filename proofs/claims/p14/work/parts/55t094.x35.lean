/-! ===== a text and its data: the class ===== -/
def zXd (S : (Int × Nat) ⊕ (zSg × Int)) (b : Nat) (d : zDt) (h : cv_H) : Prop := match S with
  | .inl _ => True
  | .inr (s, _) => zSC b h s ∧ zWD b h s d
theorem zWD_sem {b : Nat} {h h' : cv_H} {s : zSg} {d : zDt} (hb : b = 2 ∨ b = 26) (C : cw_Fr cw_Ds cw_sh kk_X5_readSemicolon.2.2.2.2.2.1 h h') (hd : zWD b h s d) : zWD b h' s d := by
  have hb4 : cw_sh[b]? = some 4 := by rcases hb with rfl | rfl <;> rfl
  obtain ⟨dl, dr, df, dt, du⟩ := hd
  exact ⟨dl, ⟨(ri_frf C (k := b) (d := 4) hb4 rfl (by decide +kernel)).trans dr.1, mem7 (zNm_eq (dr.2 2 (by decide)) (fun i => ri_frr C (sh_po hb (o := 2) (by decide) (by decide)) rfl (by decide +kernel))) (zNm_eq (dr.2 9 (by decide)) (fun i => ri_frr C (sh_po hb (o := 9) (by decide) (by decide)) rfl (by decide +kernel))) (zNm_eq (dr.2 10 (by decide)) (fun i => ri_frr C (sh_po hb (o := 10) (by decide) (by decide)) rfl (by decide +kernel))) (zNm_eq (dr.2 11 (by decide)) (fun i => ri_frr C (sh_po hb (o := 11) (by decide) (by decide)) rfl (by decide +kernel))) (zNm_eq (dr.2 13 (by decide)) (fun i => ri_frr C (sh_po hb (o := 13) (by decide) (by decide)) rfl (by decide +kernel))) (zNm_eq (dr.2 14 (by decide)) (fun i => ri_frr C (sh_po hb (o := 14) (by decide) (by decide)) rfl (by decide +kernel))) (zNm_eq (dr.2 15 (by decide)) (fun i => ri_frr C (sh_po hb (o := 15) (by decide) (by decide)) rfl (by decide +kernel)))⟩, ⟨fun j hj => ((fun i => ri_frr C (sh_po hb (o := 1) (by decide) (by decide)) rfl (by decide +kernel)) j).trans (df.1 j hj), mem3 (fun j hj => ((fun i => ri_frr C (sh_po hb (o := 3) (by decide) (by decide)) rfl (by decide +kernel)) j).trans (df.2 3 (by decide) j hj)) (fun j hj => ((fun i => ri_frr C (sh_po hb (o := 4) (by decide) (by decide)) rfl (by decide +kernel)) j).trans (df.2 4 (by decide) j hj)) (fun j hj => ((fun i => ri_frr C (sh_po hb (o := 5) (by decide) (by decide)) rfl (by decide +kernel)) j).trans (df.2 5 (by decide) j hj))⟩, wt_keep hb C (by decide +kernel) dt, wu_keep hb C (by decide +kernel) du⟩
theorem zD0_t {i j : Nat} (h : 16 ≤ i) : zD0.2 i j = z16.getD j 0 := by
  show (if i = 1 then (50 : Int) else if i < 16 then 0 else z16.getD j 0) = _
  rw [if_neg (by omega), if_neg (by omega)]
theorem z16_0 (j : Nat) : z16.getD (16 + j) 0 = 0 := by
  rw [List.getD_eq_getElem?_getD, List.getElem?_eq_none (by show 16 ≤ 16 + j; omega)]
  rfl
section TZ
variable {G : Int} {X : cv_X} {Q : cv_O → Prop} {t : Nat → Int}
set_option maxHeartbeats 8000000 in
theorem tx_tailD {h0 : cv_H} {n p u : Nat} (ht : ∀ i, t i = ri_at h0 1 i % 256) (hwd : ∀ i, i < 34 → ri_at h0 52 i = tz_wc.getD i 0) (hn9 : n ≤ 900)  {b : Nat} (hb : b = 2 ∨ b = 26) (hpl : zPL b h0) {α : Type} {z : (Int × Nat) ⊕ (α × Nat)} {f : α → zSg} {s : zSg} {k : Int} {E : (Int × Nat) ⊕ (zSg × Int)} {d ED : zDt} (hQ : ∀ (x : Int32) h', cw_T G h' → cw_Fr cw_Ds cw_sh mk_rx h0 h' → zTc (E) x h' → zXd (E) b ED h' → Q (some (cv_i x), h')) (hpn : p ≤ n) (hE : ztx t n (u + 1) k s p = E) (hE2 : ztD t n (u + 1) s p d = ED) (hk0 : ¬ zk t n p = 0) (hln : zln t n s p = zb2 z (zSem t n f)) {h : cv_H} (hD : ∀ v q, z = .inr (v, q) → zSC b h (f v) ∧ zWD b h (f v) (zlD t n s p d)) (hK : ∀ (L : cv_L) (I : Int32) (s' : zSg) (q' : Nat) (h' : cv_H), cw_T G h' → cw_Fr cw_Ds cw_sh mk_rx h0 h' → zCs t n (.inr q') h' → zSC b h' s' → zWD b h' s' (zlD t n s p d) → p < q' → ztx t n u (k + 1) s' q' = E → ztD t n u s' q' (zlD t n s p d) = ED → I.toInt = k + 1 → cv_get L 0 = some (cv_r 50) → cv_get L 3 = some (cv_i I) → cw_X X 60 Q 37 L [] h') (L : cv_L) (I : Int32) (hT : cw_T G h) (Fh : cw_Fr cw_Ds cw_sh mk_rx h0 h) (hS : zCs t n (zst z) h) (hI : I.toInt = k ∧ 0 ≤ k ∧ k ≤ 900) (g0 : cv_get L 0 = some (cv_r 50)) (g3 : cv_get L 3 = some (cv_i I)) : cw_X X 60 Q 153 L [] h := by
  have Fh0 : cw_Fr cw_Ds cw_sh mk_rx h0 h0 := cw_Fr_refl
  have hA : ∀ h, cw_Fr cw_Ds cw_sh mk_rx h0 h → ∀ i, ri_at h 1 i = ri_at h0 1 i := fun h F i => ri_frr F (k := 1) (d := 13) rfl rfl (by decide +kernel)
  have hB : ∀ h, cw_Fr cw_Ds cw_sh mk_rx h0 h → ∀ i, ri_at h 52 i = ri_at h0 52 i := fun h F i => ri_frr F (k := 52) (d := 43) rfl rfl (by decide +kernel)
  have hPL : ∀ h, cw_Fr cw_Ds cw_sh mk_rx h0 h → zPL b h := fun h F => zPL_fr hb F (by decide +kernel) hpl
  have hb4 : cw_sh[b]? = some 4 := by rcases hb with rfl | rfl <;> rfl
  have hkb1 : cw_sh[b + 1]? = some 28 := by rcases hb with rfl | rfl <;> rfl
  have hkb2 : cw_sh[b + 2]? = some 29 := by rcases hb with rfl | rfl <;> rfl
  have hkb3 : cw_sh[b + 3]? = some 30 := by rcases hb with rfl | rfl <;> rfl
  have hkb4 : cw_sh[b + 4]? = some 31 := by rcases hb with rfl | rfl <;> rfl
  have hkb5 : cw_sh[b + 5]? = some 32 := by rcases hb with rfl | rfl <;> rfl
  have hkb6 : cw_sh[b + 6]? = some 33 := by rcases hb with rfl | rfl <;> rfl
  have hkb7 : cw_sh[b + 7]? = some 34 := by rcases hb with rfl | rfl <;> rfl
  have hkb8 : cw_sh[b + 8]? = some 35 := by rcases hb with rfl | rfl <;> rfl
  have hkb9 : cw_sh[b + 9]? = some 36 := by rcases hb with rfl | rfl <;> rfl
  have hkb10 : cw_sh[b + 10]? = some 37 := by rcases hb with rfl | rfl <;> rfl
  have hkb11 : cw_sh[b + 11]? = some 38 := by rcases hb with rfl | rfl <;> rfl
  have hkb12 : cw_sh[b + 12]? = some 39 := by rcases hb with rfl | rfl <;> rfl
  have hkb13 : cw_sh[b + 13]? = some 40 := by rcases hb with rfl | rfl <;> rfl
  have hkb14 : cw_sh[b + 14]? = some 41 := by rcases hb with rfl | rfl <;> rfl
  have hkb15 : cw_sh[b + 15]? = some 42 := by rcases hb with rfl | rfl <;> rfl
  refine ex_al oq_X5_readText_153 g0 ?_
  refine ex_cv oq_X5_readText_154 (by decide) hT (k := 50) (d := 5) (as := []) (stk := []) rfl rfl rfl rfl rfl rfl ⟨rfl, rfl⟩ (R := fun o => ∃ hb : cv_H, o = (none, hb) ∧ cw_T G hb ∧ cw_Fr cw_Ds cw_sh kk_X5_readSemicolon.2.2.2.2.2.1 h hb ∧ zCs t n (zbd (zst z) (zsm t n)) hb) (ct_semicolon (t := t) (n := n) (fun i => by rw [ht, ← hA _ Fh]) (fun i hi => by rw [hB _ Fh]; exact hwd i hi) hn9 hT hS (fun hb b1 b2 b3 => ⟨hb, rfl, b1, b2, b3⟩)) (fun o ho => ?_)
  obtain ⟨h101, rfl, Th101, Ch101, Sh101⟩ := ho
  show cw_X _ _ _ _ _ [] h101
  have Fh101 : cw_Fr cw_Ds cw_sh mk_rx h0 h101 := cw_Fr_tr Fh (cw_Fr_mono (by decide +kernel) Ch101)
  refine ex_al oq_X5_readText_157 g0 ?_
  obtain ⟨x102, ax102, rx102, lx102, ux102⟩ := ri_fld (k := 50) (d := 5) (f := 4) Th101 rfl rfl rfl
  try dsimp only at lx102 ux102
  refine ex_gf oq_X5_readText_158 Th101 (k := 50) (d := 5) rfl rfl ax102 ?_
  clear lx102 ux102
  refine ex_if0 oq_X5_readText_161 (t := 166) rfl rfl (fun (c103 : x102.toInt = 0) => ?_) (fun (c103 : ¬ (x102.toInt = 0)) => ?_)
  · obtain ⟨q2, gq⟩ := zCs_good Sh101 (by omega)
    rw [gq] at Sh101
    obtain ⟨v, q, e1, e2⟩ := zsm_g (f := f) gq
    refine ex_incA oq_X5_readText_166 (v := I) (m := 1) g3 (by decide) (by omega) (fun L105 x104 hx104 gL105_3 kL105 => ?_)
    have gL105_0 : cv_get L105 0 = some (cv_r 50) := kL105 0 _ (by decide) (fun q => absurd q (by decide)) g0
    refine ex_go oq_X5_readText_169 (t := 37) rfl rfl ?_
    rw [ztx_s, if_neg hk0, hln, zb2_r e2] at hE
    have hge := zln_ge (t := t) hpn (hln.trans e2)
    exact hK L105 x104 (f v) q2 h101 Th101 Fh101 Sh101 (zSC_sem hb Ch101 (hD v q e1).1) (zWD_sem hb Ch101 (hD v q e1).2) (by omega) hE ((ztD_s hk0 (hln.trans e2)).symm.trans hE2) (by omega) gL105_0 gL105_3
  · replace c103 : ¬ x102.toInt = 0 := by omega
    obtain ⟨⟨fc, fa⟩, gq⟩ := zCs_bad Sh101 (by omega)
    rw [gq] at Sh101
    have e2 := zsm_b (f := f) gq
    refine ex_ic oq_X5_readText_164 (m := (-1)) (by decide) (fun x106 hx106 => ?_)
    rw [ztx_s, if_neg hk0, hln, zb2_l e2] at hE
    exact ex_reti oq_X5_readText_165 rfl (hQ x106 h101 Th101 Fh101 (by rw [← hE]; exact ⟨by omega, Sh101.1, Sh101.2.1⟩) (by rw [← hE]; trivial))
set_option maxHeartbeats 16000000 in
theorem tx_lpD {h0 : cv_H} {n : Nat} (ht : ∀ i, t i = ri_at h0 1 i % 256) (hwd : ∀ i, i < 34 → ri_at h0 52 i = tz_wc.getD i 0) (hn9 : n ≤ 900)  {b : Nat} (hb : b = 2 ∨ b = 26) (hpl : zPL b h0) {E : (Int × Nat) ⊕ (zSg × Int)} {ED : zDt} (hrp : ∀ i, i < 4 → cw_at h0 (b + 16 + 2 * i) 16 = some (cv_r (b + 16 + 2 * i + 1))) (hQ : ∀ (x : Int32) h', cw_T G h' → cw_Fr cw_Ds cw_sh mk_rx h0 h' → zTc (E) x h' → zXd (E) b ED h' → Q (some (cv_i x), h')) : ∀ (u ii : Nat) (L : cv_L) (I : Int32) (s : zSg) (d : zDt) (p : Nat) (h : cv_H), ii + u = 901 → cw_T G h → cw_Fr cw_Ds cw_sh mk_rx h0 h → zCs t n (.inr p) h → zSC b h s → zWD b h s d → n < u + p → ztx t n u ii s p = E → ztD t n u s p d = ED → I.toInt = ii → cv_get L 0 = some (cv_r 50) → cv_get L 3 = some (cv_i I) → cw_X X 60 Q 37 L [] h := by
  have Fh0 : cw_Fr cw_Ds cw_sh mk_rx h0 h0 := cw_Fr_refl
  have hA : ∀ h, cw_Fr cw_Ds cw_sh mk_rx h0 h → ∀ i, ri_at h 1 i = ri_at h0 1 i := fun h F i => ri_frr F (k := 1) (d := 13) rfl rfl (by decide +kernel)
  have hB : ∀ h, cw_Fr cw_Ds cw_sh mk_rx h0 h → ∀ i, ri_at h 52 i = ri_at h0 52 i := fun h F i => ri_frr F (k := 52) (d := 43) rfl rfl (by decide +kernel)
  have hPL : ∀ h, cw_Fr cw_Ds cw_sh mk_rx h0 h → zPL b h := fun h F => zPL_fr hb F (by decide +kernel) hpl
  have hb4 : cw_sh[b]? = some 4 := by rcases hb with rfl | rfl <;> rfl
  have hkb1 : cw_sh[b + 1]? = some 28 := by rcases hb with rfl | rfl <;> rfl
  have hkb2 : cw_sh[b + 2]? = some 29 := by rcases hb with rfl | rfl <;> rfl
  have hkb3 : cw_sh[b + 3]? = some 30 := by rcases hb with rfl | rfl <;> rfl
  have hkb4 : cw_sh[b + 4]? = some 31 := by rcases hb with rfl | rfl <;> rfl
  have hkb5 : cw_sh[b + 5]? = some 32 := by rcases hb with rfl | rfl <;> rfl
  have hkb6 : cw_sh[b + 6]? = some 33 := by rcases hb with rfl | rfl <;> rfl
  have hkb7 : cw_sh[b + 7]? = some 34 := by rcases hb with rfl | rfl <;> rfl
  have hkb8 : cw_sh[b + 8]? = some 35 := by rcases hb with rfl | rfl <;> rfl
  have hkb9 : cw_sh[b + 9]? = some 36 := by rcases hb with rfl | rfl <;> rfl
  have hkb10 : cw_sh[b + 10]? = some 37 := by rcases hb with rfl | rfl <;> rfl
  have hkb11 : cw_sh[b + 11]? = some 38 := by rcases hb with rfl | rfl <;> rfl
  have hkb12 : cw_sh[b + 12]? = some 39 := by rcases hb with rfl | rfl <;> rfl
  have hkb13 : cw_sh[b + 13]? = some 40 := by rcases hb with rfl | rfl <;> rfl
  have hkb14 : cw_sh[b + 14]? = some 41 := by rcases hb with rfl | rfl <;> rfl
  have hkb15 : cw_sh[b + 15]? = some 42 := by rcases hb with rfl | rfl <;> rfl
  intro u
  induction u with
  | zero =>
    intro ii L I s d p h hiu hT Fh hS hs hd hnp hE hE2 hI g0 g3
    have := hS.1
    exfalso
    omega
  | succ u ih =>
    intro ii L I s d p h hiu hT Fh hS hs hd hnp hE hE2 hI g0 g3
    have hpn := hS.1
    obtain ⟨c3, clt, ckn, cg, cw, cc, cto⟩ := id hs
    have hg4 : s.2.2.2.1.length ≤ 4 := by
      obtain ⟨x, -, r1, r2, r3⟩ := ri_fld (k := b) (d := 4) (f := 9) hT hb4 rfl rfl
      have := cg.1
      dsimp only at r2 r3
      omega
    have hw6 : s.2.2.2.2.1.length ≤ 6 := by
      obtain ⟨x, -, r1, r2, r3⟩ := ri_fld (k := b) (d := 4) (f := 14) hT hb4 rfl rfl
      have := cw.1
      dsimp only at r2 r3
      omega
    have hc6 : s.2.2.2.2.2.length ≤ 6 := by
      obtain ⟨x, -, r1, r2, r3⟩ := ri_fld (k := b) (d := 4) (f := 19) hT hb4 rfl rfl
      have := cc.1
      dsimp only at r2 r3
      omega
    refine ex_il oq_X5_readText_37 g3 ?_
    refine ex_si oq_X5_readText_38 (m := 900) (by decide) (fun x301 hx301 => ?_)
    refine ex_if oq_X5_readText_41 (t := 172) rfl rfl (fun (c302 : x301.toInt < I.toInt) => ?_) (fun (c302 : ¬ (x301.toInt < I.toInt)) => ?_)
    · exfalso; omega
    · refine ex_al oq_X5_readText_44 g0 ?_
      refine ex_gf oq_X5_readText_45 hT (k := 50) (d := 5) rfl rfl (ri_ref (k := 50) (k' := 51) (d := 5) (f := 0) hT rfl rfl rfl (by decide) (ri_uniq (by decide +kernel))) ?_
      obtain ⟨pnh, yah, ybh, ych, ydh, yfh⟩ := zCs_at hS
      obtain ⟨kch, ykh⟩ : ∃ k, ri_at h 51 4 = k := ⟨_, rfl⟩
      obtain ⟨vch, yvh⟩ : ∃ k, ri_at h 51 6 = k := ⟨_, rfl⟩
      rw [ykh, yvh] at ydh
      replace ydh := zhd_i ydh
      have zlh := zx_le (t := t) (n := n) (p := p) (by omega)
      obtain ⟨x303, ax303, rx303, lx303, ux303⟩ := ri_fld (k := 51) (d := 6) (f := 4) hT rfl rfl rfl
      try dsimp only at lx303 ux303
      refine ex_gf oq_X5_readText_48 hT (k := 51) (d := 6) rfl rfl ax303 ?_
      clear lx303 ux303
      have rx303 := (rx303.symm.trans ykh : x303.toInt = kch)
      refine ex_if0 oq_X5_readText_51 (t := 56) rfl rfl (fun (c304 : ¬ x303.toInt = 0) => ?_) (fun (c304 : ¬ (¬ x303.toInt = 0)) => ?_)
      · have re := rl_end (show tz_rel _ _ _ _ from ydh)
        refine ex_al oq_X5_readText_56 g0 ?_
        refine ex_gf oq_X5_readText_57 hT (k := 50) (d := 5) rfl rfl (ri_ref (k := 50) (k' := 51) (d := 5) (f := 0) hT rfl rfl rfl (by decide) (ri_uniq (by decide +kernel))) ?_
        obtain ⟨x305, ax305, rx305, lx305, ux305⟩ := ri_fld (k := 51) (d := 6) (f := 4) hT rfl rfl rfl
        try dsimp only at lx305 ux305
        refine ex_gf oq_X5_readText_60 hT (k := 51) (d := 6) rfl rfl ax305 ?_
        clear lx305 ux305
        have rx305 := (rx305.symm.trans ykh : x305.toInt = kch)
        refine ex_ic oq_X5_readText_63 (m := 2) (by decide) (fun x306 hx306 => ?_)
        refine ex_if oq_X5_readText_64 (t := 77) rfl rfl (fun (c307 : ¬ x305.toInt = x306.toInt) => ?_) (fun (c307 : ¬ (¬ x305.toInt = x306.toInt)) => ?_)
        · have rb := rl_pw (show tz_rel _ _ _ _ from ydh)
          refine ex_ic oq_X5_readText_77 (m := (-1)) (by decide) (fun x308 hx308 => ?_)
          refine ex_tsw oq_X5_readText_78 rfl (fun c309 => ⟨rfl, ?_⟩) (fun i hi c309 => ?_)
          · show cw_X _ _ _ 147 _ _ _
            refine ex_al oq_X5_readText_147 g0 ?_
            refine ex_ic oq_X5_readText_148 (m := 1) (by decide) (fun x310 hx310 => ?_)
            refine ex_cv oq_X5_readText_149 (by decide) hT (k := 50) (d := 5) (as := [cv_i x310]) (stk := []) rfl rfl rfl rfl rfl rfl ⟨rfl, rfl⟩ (R := fun o => ∃ (x : Int32) (hb : cv_H), o = (some (cv_i x), hb) ∧ cw_T G hb ∧ cw_Fr cw_Ds cw_sh kk_X5_fail.2.2.2.2.2.1 h hb ∧ x.toInt = 0 ∧ zCs t n (.inl (1, za t n p)) hb) (ct_failP (t := t) (n := n) (p := p) hT hS x310 hx310 (by decide) (fun x hb b1 b2 b3 b4 => ⟨x, hb, rfl, b1, b2, b3, b4⟩)) (fun o ho => ?_)
            obtain ⟨x311, h312, rfl, Th312, Ch312, zh312, Sh312⟩ := ho
            show cw_X _ _ _ _ _ [cv_i x311] h312
            have Fh312 : cw_Fr cw_Ds cw_sh mk_rx h0 h312 := cw_Fr_tr Fh (cw_Fr_mono (by decide +kernel) Ch312)
            refine ex_pop oq_X5_readText_152 rfl ?_
            have hln : zln t n s p = zb2 (.inl (1, za t n p) : (Int × Nat) ⊕ (Unit × Nat)) (zSem t n (fun _ => s)) := by unfold zln; rw [if_neg (by omega)]; rfl
            exact tx_tailD ht hwd hn9 hb hpl (d := d) (z := (.inl (1, za t n p) : (Int × Nat) ⊕ (Unit × Nat))) (f := fun _ => s) hQ hpn hE hE2 (by omega) hln (fun v q e => nomatch e) (fun L I s' q' h' c1 c2 c3 c4 c10 c5 c6 c11 c7 c8 c9 => ih (ii + 1) L I s' _ q' h' (by omega) c1 c2 c3 c4 c10 (by omega) (by rw [show ((ii + 1 : Nat) : Int) = (ii : Int) + 1 from by omega]; exact c6) c11 (by omega) c8 c9) L I Th312 Fh312 Sh312 (by omega) g0 g3
          · match i, hi, c309 with
            | 0, _, c309 =>
              refine ⟨rfl, ?_⟩
              show cw_X _ _ _ 112 _ _ _
              exfalso; omega
            | 1, _, c309 =>
              refine ⟨rfl, ?_⟩
              show cw_X _ _ _ 119 _ _ _
              exfalso; omega
            | 2, _, c309 =>
              refine ⟨rfl, ?_⟩
              show cw_X _ _ _ 126 _ _ _
              exfalso; omega
            | 3, _, c309 =>
              refine ⟨rfl, ?_⟩
              show cw_X _ _ _ 133 _ _ _
              exfalso; omega
            | 4, _, c309 =>
              refine ⟨rfl, ?_⟩
              show cw_X _ _ _ 140 _ _ _
              exfalso; omega
            | i + 5, hi, _ => exact absurd hi (by show ¬ i + 5 < 5; omega)
        · have rb := rl_pw (show tz_rel _ _ _ _ from ydh)
          refine ex_al oq_X5_readText_67 g0 ?_
          refine ex_gf oq_X5_readText_68 hT (k := 50) (d := 5) rfl rfl (ri_ref (k := 50) (k' := 51) (d := 5) (f := 0) hT rfl rfl rfl (by decide) (ri_uniq (by decide +kernel))) ?_
          obtain ⟨x313, ax313, rx313, lx313, ux313⟩ := ri_fld (k := 51) (d := 6) (f := 6) hT rfl rfl rfl
          try dsimp only at lx313 ux313
          refine ex_gf oq_X5_readText_71 hT (k := 51) (d := 6) rfl rfl ax313 ?_
          clear lx313 ux313
          have rx313 := (rx313.symm.trans yvh : x313.toInt = vch)
          refine ex_go oq_X5_readText_74 (t := 78) rfl rfl ?_
          refine ex_tsw oq_X5_readText_78 rfl (fun c314 => ⟨rfl, ?_⟩) (fun i hi c314 => ?_)
          · show cw_X _ _ _ 147 _ _ _
            refine ex_al oq_X5_readText_147 g0 ?_
            refine ex_ic oq_X5_readText_148 (m := 1) (by decide) (fun x315 hx315 => ?_)
            refine ex_cv oq_X5_readText_149 (by decide) hT (k := 50) (d := 5) (as := [cv_i x315]) (stk := []) rfl rfl rfl rfl rfl rfl ⟨rfl, rfl⟩ (R := fun o => ∃ (x : Int32) (hb : cv_H), o = (some (cv_i x), hb) ∧ cw_T G hb ∧ cw_Fr cw_Ds cw_sh kk_X5_fail.2.2.2.2.2.1 h hb ∧ x.toInt = 0 ∧ zCs t n (.inl (1, za t n p)) hb) (ct_failP (t := t) (n := n) (p := p) hT hS x315 hx315 (by decide) (fun x hb b1 b2 b3 b4 => ⟨x, hb, rfl, b1, b2, b3, b4⟩)) (fun o ho => ?_)
            obtain ⟨x316, h317, rfl, Th317, Ch317, zh317, Sh317⟩ := ho
            show cw_X _ _ _ _ _ [cv_i x316] h317
            have Fh317 : cw_Fr cw_Ds cw_sh mk_rx h0 h317 := cw_Fr_tr Fh (cw_Fr_mono (by decide +kernel) Ch317)
            refine ex_pop oq_X5_readText_152 rfl ?_
            have hln : zln t n s p = zb2 (.inl (1, za t n p) : (Int × Nat) ⊕ (Unit × Nat)) (zSem t n (fun _ => s)) := by unfold zln; rw [if_neg (by omega)]; rfl
            exact tx_tailD ht hwd hn9 hb hpl (d := d) (z := (.inl (1, za t n p) : (Int × Nat) ⊕ (Unit × Nat))) (f := fun _ => s) hQ hpn hE hE2 (by omega) hln (fun v q e => nomatch e) (fun L I s' q' h' c1 c2 c3 c4 c10 c5 c6 c11 c7 c8 c9 => ih (ii + 1) L I s' _ q' h' (by omega) c1 c2 c3 c4 c10 (by omega) (by rw [show ((ii + 1 : Nat) : Int) = (ii : Int) + 1 from by omega]; exact c6) c11 (by omega) c8 c9) L I Th317 Fh317 Sh317 (by omega) g0 g3
          · match i, hi, c314 with
            | 0, _, c314 =>
              refine ⟨rfl, ?_⟩
              show cw_X _ _ _ 112 _ _ _
              have hw0 : zk t n p = 1 ∧ zw t n p = 0 := by omega
              refine ex_al oq_X5_readText_112 g0 ?_
              refine ex_cv oq_X5_readText_113 (by decide) hT (k := 50) (d := 5) (as := []) (stk := []) rfl rfl rfl rfl rfl rfl ⟨rfl, rfl⟩ (R := fun o => ∃ hb : cv_H, o = (none, hb) ∧ cw_T G hb ∧ cw_Fr cw_Ds cw_sh kk_X5_readGround.2.2.2.2.2.1 h hb ∧ zCs t n (zst (zgl t n s.1 p)) hb ∧ (∀ v q, zgl t n s.1 p = .inr (v, q) → zSC b hb (1, s.2) ∧ zWD b hb (1, s.2) (zlD t n s p d))) (ct_groundJ (t := t) (n := n) (p := p) (fun i => by rw [ht, ← hA _ Fh]) (fun i hi => by rw [hB _ Fh]; exact hwd i hi) hn9 hT hb (hPL _ Fh) hS hs hd   hw0 (fun hb b1 b2 b3 b4 => ⟨hb, rfl, b1, b2, b3, b4⟩)) (fun o ho => ?_)
              obtain ⟨h318, rfl, Th318, Ch318, Sh318, Dh318⟩ := ho
              show cw_X _ _ _ _ _ [] h318
              have Fh318 : cw_Fr cw_Ds cw_sh mk_rx h0 h318 := cw_Fr_tr Fh (cw_Fr_mono (by decide +kernel) Ch318)
              refine ex_go oq_X5_readText_116 (t := 153) rfl rfl ?_
              have hln : zln t n s p = zb2 (zgl t n s.1 p) (zSem t n (fun (_ : List Int) => ((1, s.2) : zSg))) := by
                unfold zln zl0
                rw [if_pos (show zk t n p = 1 ∧ zw t n p ≤ 4 by omega), if_pos (by omega)]
                exact zl0_a
              exact tx_tailD ht hwd hn9 hb hpl (d := d) (z := zgl t n s.1 p) (f := fun (_ : List Int) => ((1, s.2) : zSg)) hQ hpn hE hE2 (by omega) hln (fun v q e => Dh318 v q e) (fun L I s' q' h' c1 c2 c3 c4 c10 c5 c6 c11 c7 c8 c9 => ih (ii + 1) L I s' _ q' h' (by omega) c1 c2 c3 c4 c10 (by omega) (by rw [show ((ii + 1 : Nat) : Int) = (ii : Int) + 1 from by omega]; exact c6) c11 (by omega) c8 c9) L I Th318 Fh318 Sh318 (by omega) g0 g3
            | 1, _, c314 =>
              refine ⟨rfl, ?_⟩
              show cw_X _ _ _ 119 _ _ _
              have hw1 : zk t n p = 1 ∧ zw t n p = 1 := by omega
              refine ex_al oq_X5_readText_119 g0 ?_
              refine ex_cv oq_X5_readText_120 (by decide) hT (k := 50) (d := 5) (as := []) (stk := []) rfl rfl rfl rfl rfl rfl ⟨rfl, rfl⟩ (R := fun o => ∃ hb : cv_H, o = (none, hb) ∧ cw_T G hb ∧ cw_Fr cw_Ds cw_sh kk_X5_readLaw.2.2.2.2.2.1 h hb ∧ zCs t n (zst (zlc t n s.2.1 s.2.2.1 p)) hb ∧ (∀ v q, zlc t n s.2.1 s.2.2.1 p = .inr (v, q) → zSC b hb (s.1, (fun i => if i = v.1 then 1 else s.2.1 i), v.2, s.2.2.2) ∧ zWD b hb (s.1, (fun i => if i = v.1 then 1 else s.2.1 i), v.2, s.2.2.2) (zlD t n s p d))) (ct_lawJ (t := t) (n := n) (p := p) (fun i => by rw [ht, ← hA _ Fh]) (fun i hi => by rw [hB _ Fh]; exact hwd i hi) hn9 hT hb (hPL _ Fh) hS hs hd   hw1 (fun hb b1 b2 b3 b4 => ⟨hb, rfl, b1, b2, b3, b4⟩)) (fun o ho => ?_)
              obtain ⟨h319, rfl, Th319, Ch319, Sh319, Dh319⟩ := ho
              show cw_X _ _ _ _ _ [] h319
              have Fh319 : cw_Fr cw_Ds cw_sh mk_rx h0 h319 := cw_Fr_tr Fh (cw_Fr_mono (by decide +kernel) Ch319)
              refine ex_go oq_X5_readText_123 (t := 153) rfl rfl ?_
              have hln : zln t n s p = zb2 (zlc t n s.2.1 s.2.2.1 p) (zSem t n (fun (a : Int × Int) => ((s.1, (fun i => if i = a.1 then 1 else s.2.1 i), a.2, s.2.2.2) : zSg))) := by
                unfold zln zl0
                rw [if_pos (show zk t n p = 1 ∧ zw t n p ≤ 4 by omega), if_neg (by omega), if_pos (by omega)]
                rw [← zll_lc]
                exact zl0_a
              exact tx_tailD ht hwd hn9 hb hpl (d := d) (z := zlc t n s.2.1 s.2.2.1 p) (f := fun (a : Int × Int) => ((s.1, (fun i => if i = a.1 then 1 else s.2.1 i), a.2, s.2.2.2) : zSg)) hQ hpn hE hE2 (by omega) hln (fun v q e => Dh319 v q e) (fun L I s' q' h' c1 c2 c3 c4 c10 c5 c6 c11 c7 c8 c9 => ih (ii + 1) L I s' _ q' h' (by omega) c1 c2 c3 c4 c10 (by omega) (by rw [show ((ii + 1 : Nat) : Int) = (ii : Int) + 1 from by omega]; exact c6) c11 (by omega) c8 c9) L I Th319 Fh319 Sh319 (by omega) g0 g3
            | 2, _, c314 =>
              refine ⟨rfl, ?_⟩
              show cw_X _ _ _ 126 _ _ _
              have hw2 : zk t n p = 1 ∧ zw t n p = 2 := by omega
              refine ex_al oq_X5_readText_126 g0 ?_
              refine ex_cv oq_X5_readText_127 (by decide) hT (k := 50) (d := 5) (as := []) (stk := []) rfl rfl rfl rfl rfl rfl ⟨rfl, rfl⟩ (R := fun o => ∃ hb : cv_H, o = (none, hb) ∧ cw_T G hb ∧ cw_Fr cw_Ds cw_sh kk_X5_readGate.2.2.2.2.2.1 h hb ∧ zCs t n (zst (zgt t n s.2.2.2.1 s.2.2.2.2.2 p)) hb ∧ (∀ v q, zgt t n s.2.2.2.1 s.2.2.2.2.2 p = .inr (v, q) → zSC b hb (s.1, s.2.1, s.2.2.1, s.2.2.2.1 ++ [v], s.2.2.2.2) ∧ zWD b hb (s.1, s.2.1, s.2.2.1, s.2.2.2.1 ++ [v], s.2.2.2.2) (zlD t n s p d))) (ct_gateJ (t := t) (n := n) (p := p) (fun i => by rw [ht, ← hA _ Fh]) (fun i hi => by rw [hB _ Fh]; exact hwd i hi) hn9 hT hb (hPL _ Fh) hS hs hd (fun i hi => (Fh.2 (b + 16 + 2 * i) 7 16 (sh_told hb hi) (by decide +kernel)).trans (hrp i hi)) hg4 hc6 hw2 (fun hb b1 b2 b3 b4 => ⟨hb, rfl, b1, b2, b3, b4⟩)) (fun o ho => ?_)
              obtain ⟨h320, rfl, Th320, Ch320, Sh320, Dh320⟩ := ho
              show cw_X _ _ _ _ _ [] h320
              have Fh320 : cw_Fr cw_Ds cw_sh mk_rx h0 h320 := cw_Fr_tr Fh (cw_Fr_mono (by decide +kernel) Ch320)
              refine ex_go oq_X5_readText_130 (t := 153) rfl rfl ?_
              have hln : zln t n s p = zb2 (zgt t n s.2.2.2.1 s.2.2.2.2.2 p) (zSem t n (fun (nm : Int) => ((s.1, s.2.1, s.2.2.1, s.2.2.2.1 ++ [nm], s.2.2.2.2) : zSg))) := by
                unfold zln zl0
                rw [if_pos (show zk t n p = 1 ∧ zw t n p ≤ 4 by omega), if_neg (by omega), if_neg (by omega), if_pos (by omega)]
                exact zl0_a
              exact tx_tailD ht hwd hn9 hb hpl (d := d) (z := zgt t n s.2.2.2.1 s.2.2.2.2.2 p) (f := fun (nm : Int) => ((s.1, s.2.1, s.2.2.1, s.2.2.2.1 ++ [nm], s.2.2.2.2) : zSg)) hQ hpn hE hE2 (by omega) hln (fun v q e => Dh320 v q e) (fun L I s' q' h' c1 c2 c3 c4 c10 c5 c6 c11 c7 c8 c9 => ih (ii + 1) L I s' _ q' h' (by omega) c1 c2 c3 c4 c10 (by omega) (by rw [show ((ii + 1 : Nat) : Int) = (ii : Int) + 1 from by omega]; exact c6) c11 (by omega) c8 c9) L I Th320 Fh320 Sh320 (by omega) g0 g3
            | 3, _, c314 =>
              refine ⟨rfl, ?_⟩
              show cw_X _ _ _ 133 _ _ _
              have hw3 : zk t n p = 1 ∧ zw t n p = 3 := by omega
              refine ex_al oq_X5_readText_133 g0 ?_
              refine ex_cv oq_X5_readText_134 (by decide) hT (k := 50) (d := 5) (as := []) (stk := []) rfl rfl rfl rfl rfl rfl ⟨rfl, rfl⟩ (R := fun o => ∃ hb : cv_H, o = (none, hb) ∧ cw_T G hb ∧ cw_Fr cw_Ds cw_sh kk_X5_readWork.2.2.2.2.2.1 h hb ∧ zCs t n (zst (zwl t n s.2.2.2.2.1 p)) hb ∧ (∀ v q, zwl t n s.2.2.2.2.1 p = .inr (v, q) → zSC b hb (s.1, s.2.1, s.2.2.1, s.2.2.2.1, s.2.2.2.2.1 ++ [v], s.2.2.2.2.2) ∧ zWD b hb (s.1, s.2.1, s.2.2.1, s.2.2.2.1, s.2.2.2.2.1 ++ [v], s.2.2.2.2.2) (zlD t n s p d))) (ct_workJ (t := t) (n := n) (p := p) (fun i => by rw [ht, ← hA _ Fh]) (fun i hi => by rw [hB _ Fh]; exact hwd i hi) hn9 hT hb (hPL _ Fh) hS hs hd  hw6 hw3 (fun hb b1 b2 b3 b4 => ⟨hb, rfl, b1, b2, b3, b4⟩)) (fun o ho => ?_)
              obtain ⟨h321, rfl, Th321, Ch321, Sh321, Dh321⟩ := ho
              show cw_X _ _ _ _ _ [] h321
              have Fh321 : cw_Fr cw_Ds cw_sh mk_rx h0 h321 := cw_Fr_tr Fh (cw_Fr_mono (by decide +kernel) Ch321)
              refine ex_go oq_X5_readText_137 (t := 153) rfl rfl ?_
              have hln : zln t n s p = zb2 (zwl t n s.2.2.2.2.1 p) (zSem t n (fun (nm : Int) => ((s.1, s.2.1, s.2.2.1, s.2.2.2.1, s.2.2.2.2.1 ++ [nm], s.2.2.2.2.2) : zSg))) := by
                unfold zln zl0
                rw [if_pos (show zk t n p = 1 ∧ zw t n p ≤ 4 by omega), if_neg (by omega), if_neg (by omega), if_neg (by omega), if_pos (by omega)]
                exact zl0_a
              exact tx_tailD ht hwd hn9 hb hpl (d := d) (z := zwl t n s.2.2.2.2.1 p) (f := fun (nm : Int) => ((s.1, s.2.1, s.2.2.1, s.2.2.2.1, s.2.2.2.2.1 ++ [nm], s.2.2.2.2.2) : zSg)) hQ hpn hE hE2 (by omega) hln (fun v q e => Dh321 v q e) (fun L I s' q' h' c1 c2 c3 c4 c10 c5 c6 c11 c7 c8 c9 => ih (ii + 1) L I s' _ q' h' (by omega) c1 c2 c3 c4 c10 (by omega) (by rw [show ((ii + 1 : Nat) : Int) = (ii : Int) + 1 from by omega]; exact c6) c11 (by omega) c8 c9) L I Th321 Fh321 Sh321 (by omega) g0 g3
            | 4, _, c314 =>
              refine ⟨rfl, ?_⟩
              show cw_X _ _ _ 140 _ _ _
              have hw4 : zk t n p = 1 ∧ zw t n p = 4 := by omega
              refine ex_al oq_X5_readText_140 g0 ?_
              refine ex_cv oq_X5_readText_141 (by decide) hT (k := 50) (d := 5) (as := []) (stk := []) rfl rfl rfl rfl rfl rfl ⟨rfl, rfl⟩ (R := fun o => ∃ hb : cv_H, o = (none, hb) ∧ cw_T G hb ∧ cw_Fr cw_Ds cw_sh kk_X5_readCause.2.2.2.2.2.1 h hb ∧ zCs t n (zst (zcl t n s.2.2.2.2.2 p)) hb ∧ (∀ v q, zcl t n s.2.2.2.2.2 p = .inr (v, q) → zSC b hb (s.1, s.2.1, s.2.2.1, s.2.2.2.1, s.2.2.2.2.1, s.2.2.2.2.2 ++ [v]) ∧ zWD b hb (s.1, s.2.1, s.2.2.1, s.2.2.2.1, s.2.2.2.2.1, s.2.2.2.2.2 ++ [v]) (zlD t n s p d))) (ct_causeJ (t := t) (n := n) (p := p) (fun i => by rw [ht, ← hA _ Fh]) (fun i hi => by rw [hB _ Fh]; exact hwd i hi) hn9 hT hb (hPL _ Fh) hS hs hd  hc6 hw4 (fun hb b1 b2 b3 b4 => ⟨hb, rfl, b1, b2, b3, b4⟩)) (fun o ho => ?_)
              obtain ⟨h322, rfl, Th322, Ch322, Sh322, Dh322⟩ := ho
              show cw_X _ _ _ _ _ [] h322
              have Fh322 : cw_Fr cw_Ds cw_sh mk_rx h0 h322 := cw_Fr_tr Fh (cw_Fr_mono (by decide +kernel) Ch322)
              refine ex_go oq_X5_readText_144 (t := 153) rfl rfl ?_
              have hln : zln t n s p = zb2 (zcl t n s.2.2.2.2.2 p) (zSem t n (fun (nm : Int) => ((s.1, s.2.1, s.2.2.1, s.2.2.2.1, s.2.2.2.2.1, s.2.2.2.2.2 ++ [nm]) : zSg))) := by
                unfold zln zl0
                rw [if_pos (show zk t n p = 1 ∧ zw t n p ≤ 4 by omega), if_neg (by omega), if_neg (by omega), if_neg (by omega), if_neg (by omega)]
                exact zl0_a
              exact tx_tailD ht hwd hn9 hb hpl (d := d) (z := zcl t n s.2.2.2.2.2 p) (f := fun (nm : Int) => ((s.1, s.2.1, s.2.2.1, s.2.2.2.1, s.2.2.2.2.1, s.2.2.2.2.2 ++ [nm]) : zSg)) hQ hpn hE hE2 (by omega) hln (fun v q e => Dh322 v q e) (fun L I s' q' h' c1 c2 c3 c4 c10 c5 c6 c11 c7 c8 c9 => ih (ii + 1) L I s' _ q' h' (by omega) c1 c2 c3 c4 c10 (by omega) (by rw [show ((ii + 1 : Nat) : Int) = (ii : Int) + 1 from by omega]; exact c6) c11 (by omega) c8 c9) L I Th322 Fh322 Sh322 (by omega) g0 g3
            | i + 5, hi, _ => exact absurd hi (by show ¬ i + 5 < 5; omega)
      · replace c304 : x303.toInt = 0 := by omega
        have re := rl_end (show tz_rel _ _ _ _ from ydh)
        refine ex_il oq_X5_readText_54 g3 ?_
        rw [ztx_s, if_pos (by omega)] at hE
        exact ex_reti oq_X5_readText_55 rfl (hQ I h hT Fh (by rw [← hE]; exact ⟨by omega, hS.2.2.1, hS.2.2.2⟩) (by rw [← hE]; exact ⟨hs, by rw [← hE2, ztD_e (by omega)]; exact hd⟩))
set_option maxHeartbeats 8000000 in
theorem ct_readTextD {h0 : cv_H} {n : Nat} (ht : ∀ i, t i = ri_at h0 1 i % 256) (hwd : ∀ i, i < 34 → ri_at h0 52 i = tz_wc.getD i 0) (hn9 : n ≤ 900) (hT : cw_T G h0) {b : Nat} (hb : b = 2 ∨ b = 26) (hpm : zPM b h0) (hrp : ∀ i, i < 4 → cw_at h0 (b + 16 + 2 * i) 16 = some (cv_r (b + 16 + 2 * i + 1))) {N : Int32} (hN : N.toInt = n) (hQ : ∀ (x : Int32) h', cw_T G h' → cw_Fr cw_Ds cw_sh kk_X5_readText.2.2.2.2.2.1 h0 h' → zTc (ztx t n 901 0 (0, (fun _ => 0), 0, [], [], []) 0) x h' → zXd (ztx t n 901 0 (0, (fun _ => 0), 0, [], [], []) 0) b (ztD t n 901 (0, (fun _ => 0), 0, [], [], []) 0 zD0) h' → Q (some (cv_i x), h')) : cw_X X 60 Q 0 (cv_ent 0 [cv_r 50, cv_r b, cv_i N]) [] h0 := by
  have Fh0 : cw_Fr cw_Ds cw_sh kk_X5_readText.2.2.2.2.2.1 h0 h0 := cw_Fr_refl
  have hA : ∀ h, cw_Fr cw_Ds cw_sh kk_X5_readText.2.2.2.2.2.1 h0 h → ∀ i, ri_at h 1 i = ri_at h0 1 i := fun h F i => ri_frr F (k := 1) (d := 13) rfl rfl (by decide +kernel)
  have hB : ∀ h, cw_Fr cw_Ds cw_sh kk_X5_readText.2.2.2.2.2.1 h0 h → ∀ i, ri_at h 52 i = ri_at h0 52 i := fun h F i => ri_frr F (k := 52) (d := 43) rfl rfl (by decide +kernel)
  have hb4 : cw_sh[b]? = some 4 := by rcases hb with rfl | rfl <;> rfl
  have hkb1 : cw_sh[b + 1]? = some 28 := by rcases hb with rfl | rfl <;> rfl
  have hkb2 : cw_sh[b + 2]? = some 29 := by rcases hb with rfl | rfl <;> rfl
  have hkb3 : cw_sh[b + 3]? = some 30 := by rcases hb with rfl | rfl <;> rfl
  have hkb4 : cw_sh[b + 4]? = some 31 := by rcases hb with rfl | rfl <;> rfl
  have hkb5 : cw_sh[b + 5]? = some 32 := by rcases hb with rfl | rfl <;> rfl
  have hkb6 : cw_sh[b + 6]? = some 33 := by rcases hb with rfl | rfl <;> rfl
  have hkb7 : cw_sh[b + 7]? = some 34 := by rcases hb with rfl | rfl <;> rfl
  have hkb8 : cw_sh[b + 8]? = some 35 := by rcases hb with rfl | rfl <;> rfl
  have hkb9 : cw_sh[b + 9]? = some 36 := by rcases hb with rfl | rfl <;> rfl
  have hkb10 : cw_sh[b + 10]? = some 37 := by rcases hb with rfl | rfl <;> rfl
  have hkb11 : cw_sh[b + 11]? = some 38 := by rcases hb with rfl | rfl <;> rfl
  have hkb12 : cw_sh[b + 12]? = some 39 := by rcases hb with rfl | rfl <;> rfl
  have hkb13 : cw_sh[b + 13]? = some 40 := by rcases hb with rfl | rfl <;> rfl
  have hkb14 : cw_sh[b + 14]? = some 41 := by rcases hb with rfl | rfl <;> rfl
  have hkb15 : cw_sh[b + 15]? = some 42 := by rcases hb with rfl | rfl <;> rfl
  refine ex_al oq_X5_readText_0 rfl ?_
  refine ex_al oq_X5_readText_1 rfl ?_
  refine ex_pfr oq_X5_readText_2 hT (k := 50) (d := 5) (v := b) rfl rfl rfl (by decide) hb4 rfl (fun h501 Th501 wh501 => ?_)
  have Fh501 : cw_Fr cw_Ds cw_sh kk_X5_readText.2.2.2.2.2.1 h0 h501 := cw_Fr_tr Fh0 (cw_Fr_wrf wh501 (k := 50) (d := 5) rfl rfl (by decide +kernel))
  have eh501_50_4 : ri_at h501 50 4 = ri_at h0 50 4 := ri_ne wh501 (.inr (by decide))
  have eh501_50_5 : ri_at h501 50 5 = ri_at h0 50 5 := ri_ne wh501 (.inr (by decide))
  have eh501_50_3 : ri_at h501 50 3 = ri_at h0 50 3 := ri_ne wh501 (.inr (by decide))
  refine ex_al oq_X5_readText_5 rfl ?_
  refine ex_gf oq_X5_readText_6 Th501 (k := 50) (d := 5) rfl rfl (wh501.1) ?_
  have pmh501 : zPM b h501 := zPM_fr hb Fh501 (by decide +kernel) hpm
  refine ex_cv oq_X5_readText_9 (by decide) Th501 (k := b) (d := 4) (as := []) (stk := []) hb4 rfl rfl rfl rfl rfl ⟨rfl, rfl⟩ (R := fun o => ∃ hb : cv_H, o = (none, hb) ∧ cw_T G hb ∧ cw_Fr cw_Ds cw_sh kk_X4_clear.2.2.2.2.2.1 h501 hb ∧ ri_at hb b 2 = 0 ∧ ri_at hb b 3 = 0 ∧ ri_at hb b 9 = 0 ∧ ri_at hb b 14 = 0 ∧ ri_at hb b 19 = 0 ∧ (∀ j, j < 4 → ri_at hb (b + 3) j = 0 ∧ ri_at hb (b + 4) j = 0 ∧ ri_at hb (b + 5) j = 0) ∧ (∀ i, i < 4 → (∀ j, j < 16 → ri_at hb (b + 16 + 2 * i) j = z16.getD j 0) ∧ ∀ j, j < 9 → ri_at hb (b + 16 + 2 * i + 1) j = 0) ∧ ∀ j, j < 12 → ri_at hb (b + 1) j = 50) (ct_planD Th501 hb pmh501 (fun i hi => (Fh501.2 (b + 16 + 2 * i) 7 16 (sh_told hb hi) (by decide +kernel)).trans (hrp i hi)) (fun hb b1 b2 b3 b4 b5 b6 b7 b8 b9 b10 => ⟨hb, rfl, b1, b2, b6, b7, b8, b9, b10, b4, b5, b3⟩)) (fun o ho => ?_)
  obtain ⟨h502, rfl, Th502, Ch502, m1, m2, m3, m4, m5, m6, m7, m8⟩ := ho
  show cw_X _ _ _ _ _ [] h502
  have Fh502 : cw_Fr cw_Ds cw_sh kk_X5_readText.2.2.2.2.2.1 h0 h502 := cw_Fr_tr Fh501 (cw_Fr_mono (by decide +kernel) Ch502)
  have eh502_50_4 : ri_at h502 50 4 = ri_at h0 50 4 := (ri_frf Ch502 (k := 50) (d := 5) rfl rfl (by decide +kernel)).trans eh501_50_4
  clear eh501_50_4
  have eh502_50_5 : ri_at h502 50 5 = ri_at h0 50 5 := (ri_frf Ch502 (k := 50) (d := 5) rfl rfl (by decide +kernel)).trans eh501_50_5
  clear eh501_50_5
  have eh502_50_3 : ri_at h502 50 3 = ri_at h0 50 3 := (ri_frf Ch502 (k := 50) (d := 5) rfl rfl (by decide +kernel)).trans eh501_50_3
  clear eh501_50_3
  refine ex_al oq_X5_readText_12 rfl ?_
  refine ex_ic oq_X5_readText_13 (m := 0) (by decide) (fun x503 hx503 => ?_)
  refine ex_pfb oq_X5_readText_14 Th502 (k := 50) (d := 5) rfl rfl rfl (by omega) (by omega) (fun h504 Th504 wh504 => ?_)
  have Fh504 : cw_Fr cw_Ds cw_sh kk_X5_readText.2.2.2.2.2.1 h0 h504 := cw_Fr_tr Fh502 (cw_Fr_wrf wh504 (k := 50) (d := 5) rfl rfl (by decide +kernel))
  have eh504_50_4 : ri_at h504 50 4 = ri_at h0 50 4 := (ri_ne wh504 (.inr (by decide))).trans eh502_50_4
  clear eh502_50_4
  have eh504_50_5 : ri_at h504 50 5 = ri_at h0 50 5 := (ri_ne wh504 (.inr (by decide))).trans eh502_50_5
  clear eh502_50_5
  have eh504_50_3 : ri_at h504 50 3 = x503.toInt := ri_self wh504
  refine ex_al oq_X5_readText_17 rfl ?_
  refine ex_ic oq_X5_readText_18 (m := 0) (by decide) (fun x505 hx505 => ?_)
  refine ex_pfi oq_X5_readText_19 Th504 (k := 50) (d := 5) rfl rfl rfl (cw_i32 _).1 (cw_i32 _).2 (fun h506 Th506 wh506 => ?_)
  have Fh506 : cw_Fr cw_Ds cw_sh kk_X5_readText.2.2.2.2.2.1 h0 h506 := cw_Fr_tr Fh504 (cw_Fr_wrf wh506 (k := 50) (d := 5) rfl rfl (by decide +kernel))
  have eh506_50_4 : ri_at h506 50 4 = x505.toInt := ri_self wh506
  have eh506_50_5 : ri_at h506 50 5 = ri_at h0 50 5 := (ri_ne wh506 (.inr (by decide))).trans eh504_50_5
  clear eh504_50_5
  have eh506_50_3 : ri_at h506 50 3 = x503.toInt := (ri_ne wh506 (.inr (by decide))).trans eh504_50_3
  clear eh504_50_3
  refine ex_al oq_X5_readText_22 rfl ?_
  refine ex_ic oq_X5_readText_23 (m := (-1)) (by decide) (fun x507 hx507 => ?_)
  refine ex_pfi oq_X5_readText_24 Th506 (k := 50) (d := 5) rfl rfl rfl (cw_i32 _).1 (cw_i32 _).2 (fun h508 Th508 wh508 => ?_)
  have Fh508 : cw_Fr cw_Ds cw_sh kk_X5_readText.2.2.2.2.2.1 h0 h508 := cw_Fr_tr Fh506 (cw_Fr_wrf wh508 (k := 50) (d := 5) rfl rfl (by decide +kernel))
  have eh508_50_4 : ri_at h508 50 4 = x505.toInt := (ri_ne wh508 (.inr (by decide))).trans eh506_50_4
  clear eh506_50_4
  have eh508_50_5 : ri_at h508 50 5 = x507.toInt := ri_self wh508
  have eh508_50_3 : ri_at h508 50 3 = x503.toInt := (ri_ne wh508 (.inr (by decide))).trans eh506_50_3
  clear eh506_50_3
  refine ex_al oq_X5_readText_27 rfl ?_
  refine ex_gf oq_X5_readText_28 Th508 (k := 50) (d := 5) rfl rfl (ri_ref (k := 50) (k' := 51) (d := 5) (f := 0) Th508 rfl rfl rfl (by decide) (ri_uniq (by decide +kernel))) ?_
  refine ex_il oq_X5_readText_31 rfl ?_
  refine ex_cv oq_X5_readText_32 (by decide) Th508 (k := 51) (d := 6) (as := [cv_i N]) (stk := []) rfl rfl rfl rfl rfl rfl ⟨rfl, rfl⟩ (R := fun o => ∃ hb : cv_H, o = (none, hb) ∧ cw_T G hb ∧ cw_Fr cw_Ds cw_sh kk_X6_begin.2.2.2.2.2.1 h508 hb ∧ zC t n 0 hb) (ct_begin (t := t) (n := n) (fun i => by rw [ht, ← hA _ Fh508]) (fun i hi => by rw [hB _ Fh508]; exact hwd i hi) hn9 Th508 hN (fun hb b1 b2 b3 => ⟨hb, rfl, b1, b2, b3⟩)) (fun o ho => ?_)
  obtain ⟨h509, rfl, Th509, Ch509, Zh509⟩ := ho
  show cw_X _ _ _ _ _ [] h509
  have Fh509 : cw_Fr cw_Ds cw_sh kk_X5_readText.2.2.2.2.2.1 h0 h509 := cw_Fr_tr Fh508 (cw_Fr_mono (by decide +kernel) Ch509)
  have eh509_50_4 : ri_at h509 50 4 = x505.toInt := (ri_frf Ch509 (k := 50) (d := 5) rfl rfl (by decide +kernel)).trans eh508_50_4
  clear eh508_50_4
  have eh509_50_5 : ri_at h509 50 5 = x507.toInt := (ri_frf Ch509 (k := 50) (d := 5) rfl rfl (by decide +kernel)).trans eh508_50_5
  clear eh508_50_5
  have eh509_50_3 : ri_at h509 50 3 = x503.toInt := (ri_frf Ch509 (k := 50) (d := 5) rfl rfl (by decide +kernel)).trans eh508_50_3
  clear eh508_50_3
  refine ex_ic oq_X5_readText_35 (m := 0) (by decide) (fun x510 hx510 => ?_)
  refine ex_isA oq_X5_readText_36 (fun L511 gL511_3 kL511 => ?_)
  have gL511_0 : cv_get L511 0 = some (cv_r 50) := kL511 0 _ (by decide) (fun q => absurd q (by decide)) rfl
  have gL511_1 : cv_get L511 1 = some (cv_r b) := kL511 1 _ (by decide) (fun q => absurd q (by decide)) rfl
  have gL511_2 : cv_get L511 2 = some (cv_i N) := kL511 2 _ (by decide) (fun _ => rfl) rfl
  have p2e : cw_at h509 50 2 = some (cv_r b) := ((Ch509.2 50 5 2 rfl (by decide +kernel)).trans ((wh508.2.1 50 2 (.inr (by decide))).trans ((wh506.2.1 50 2 (.inr (by decide))).trans ((wh504.2.1 50 2 (.inr (by decide))).trans ((Ch502.2 50 5 2 rfl (by decide +kernel)).trans wh501.1)))))
  have pme : zPM b h509 := zPM_fr hb Fh509 (by decide +kernel) hpm
  have b4 : cw_sh[b]? = some 4 := by rcases hb with rfl | rfl <;> rfl
  have n2 : ri_at h509 b 2 = 0 := (((ri_frf Ch509 (k := b) (d := 4) hb4 rfl (by decide +kernel)).trans ((ri_ne wh508 (.inl (cw_kne (k := b) (d := 4) (k' := 50) (d' := 5) hb4 rfl (by decide)))).trans ((ri_ne wh506 (.inl (cw_kne (k := b) (d := 4) (k' := 50) (d' := 5) hb4 rfl (by decide)))).trans (ri_ne wh504 (.inl (cw_kne (k := b) (d := 4) (k' := 50) (d' := 5) hb4 rfl (by decide))))))).trans m1)
  have n3 : ri_at h509 b 3 = 0 := (((ri_frf Ch509 (k := b) (d := 4) hb4 rfl (by decide +kernel)).trans ((ri_ne wh508 (.inl (cw_kne (k := b) (d := 4) (k' := 50) (d' := 5) hb4 rfl (by decide)))).trans ((ri_ne wh506 (.inl (cw_kne (k := b) (d := 4) (k' := 50) (d' := 5) hb4 rfl (by decide)))).trans (ri_ne wh504 (.inl (cw_kne (k := b) (d := 4) (k' := 50) (d' := 5) hb4 rfl (by decide))))))).trans m2)
  have n9 : ri_at h509 b 9 = 0 := (((ri_frf Ch509 (k := b) (d := 4) hb4 rfl (by decide +kernel)).trans ((ri_ne wh508 (.inl (cw_kne (k := b) (d := 4) (k' := 50) (d' := 5) hb4 rfl (by decide)))).trans ((ri_ne wh506 (.inl (cw_kne (k := b) (d := 4) (k' := 50) (d' := 5) hb4 rfl (by decide)))).trans (ri_ne wh504 (.inl (cw_kne (k := b) (d := 4) (k' := 50) (d' := 5) hb4 rfl (by decide))))))).trans m3)
  have n14 : ri_at h509 b 14 = 0 := (((ri_frf Ch509 (k := b) (d := 4) hb4 rfl (by decide +kernel)).trans ((ri_ne wh508 (.inl (cw_kne (k := b) (d := 4) (k' := 50) (d' := 5) hb4 rfl (by decide)))).trans ((ri_ne wh506 (.inl (cw_kne (k := b) (d := 4) (k' := 50) (d' := 5) hb4 rfl (by decide)))).trans (ri_ne wh504 (.inl (cw_kne (k := b) (d := 4) (k' := 50) (d' := 5) hb4 rfl (by decide))))))).trans m4)
  have n19 : ri_at h509 b 19 = 0 := (((ri_frf Ch509 (k := b) (d := 4) hb4 rfl (by decide +kernel)).trans ((ri_ne wh508 (.inl (cw_kne (k := b) (d := 4) (k' := 50) (d' := 5) hb4 rfl (by decide)))).trans ((ri_ne wh506 (.inl (cw_kne (k := b) (d := 4) (k' := 50) (d' := 5) hb4 rfl (by decide)))).trans (ri_ne wh504 (.inl (cw_kne (k := b) (d := 4) (k' := 50) (d' := 5) hb4 rfl (by decide))))))).trans m5)
  have hlt : zLT b h509 (fun _ => 0) := fun i hi => .inr ⟨rfl, by have := m6 i hi; rw [show ri_at h509 (b + 4) i = ri_at h502 (b + 4) i from ((ri_frr Ch509 (k := (b + 4)) (d := 31) hkb4 rfl (by decide +kernel)).trans ((ri_ne wh508 (.inl (cw_kne (k := (b + 4)) (d := 31) (k' := 50) (d' := 5) hkb4 rfl (by decide)))).trans ((ri_ne wh506 (.inl (cw_kne (k := (b + 4)) (d := 31) (k' := 50) (d' := 5) hkb4 rfl (by decide)))).trans (ri_ne wh504 (.inl (cw_kne (k := (b + 4)) (d := 31) (k' := 50) (d' := 5) hkb4 rfl (by decide))))))), show ri_at h509 (b + 3) i = ri_at h502 (b + 3) i from ((ri_frr Ch509 (k := (b + 3)) (d := 30) hkb3 rfl (by decide +kernel)).trans ((ri_ne wh508 (.inl (cw_kne (k := (b + 3)) (d := 30) (k' := 50) (d' := 5) hkb3 rfl (by decide)))).trans ((ri_ne wh506 (.inl (cw_kne (k := (b + 3)) (d := 30) (k' := 50) (d' := 5) hkb3 rfl (by decide)))).trans (ri_ne wh504 (.inl (cw_kne (k := (b + 3)) (d := 30) (k' := 50) (d' := 5) hkb3 rfl (by decide)))))))]; omega⟩
  have hto : ∀ i, 0 ≤ i → i < 4 → ri_at h509 (b + 16 + 2 * i) 14 = 0 ∧ ri_at h509 (b + 16 + 2 * i) 15 = 0 := fun i _ hi => ⟨((ri_frf Ch509 (sh_told hb hi) rfl (by decide +kernel)).trans ((ri_ne wh508 (.inl (cw_kne (sh_told hb hi) (rfl : cw_sh[50]? = some 5) (by decide)))).trans ((ri_ne wh506 (.inl (cw_kne (sh_told hb hi) (rfl : cw_sh[50]? = some 5) (by decide)))).trans ((ri_ne wh504 (.inl (cw_kne (sh_told hb hi) (rfl : cw_sh[50]? = some 5) (by decide)))).trans ((m7 i hi).1 14 (by decide)))))), ((ri_frf Ch509 (sh_told hb hi) rfl (by decide +kernel)).trans ((ri_ne wh508 (.inl (cw_kne (sh_told hb hi) (rfl : cw_sh[50]? = some 5) (by decide)))).trans ((ri_ne wh506 (.inl (cw_kne (sh_told hb hi) (rfl : cw_sh[50]? = some 5) (by decide)))).trans ((ri_ne wh504 (.inl (cw_kne (sh_told hb hi) (rfl : cw_sh[50]? = some 5) (by decide)))).trans ((m7 i hi).1 15 (by decide))))))⟩
  have hsc : zSC b h509 (0, (fun _ => 0), 0, [], [], []) := ⟨by show _ = (0 : Int); omega, hlt, ⟨n2, n3, Int.le_refl 0, by decide⟩, ⟨n9, fun k hk => absurd hk (Nat.not_lt_zero k)⟩, ⟨n14, fun k hk => absurd hk (Nat.not_lt_zero k)⟩, ⟨n19, fun k hk => absurd hk (Nat.not_lt_zero k)⟩, hto⟩
  have hK7 : ∀ i, i < 4 → ∀ j, j < 16 → ri_at h509 (b + 16 + 2 * i) j = z16.getD j 0 := fun i hi j hj => by
    have hbit : ∀ m : Nat, ((List.range 16).all (fun i => !cw_bit m 7 i)) = true → cw_bit m 7 j = false := fun m q => by simpa using List.all_eq_true.mp q j (List.mem_range.mpr hj)
    exact ((ri_frf Ch509 (sh_told hb hi) rfl (hbit _ (by decide +kernel))).trans ((ri_ne wh508 (.inl (cw_kne (sh_told hb hi) (rfl : cw_sh[50]? = some 5) (by decide)))).trans ((ri_ne wh506 (.inl (cw_kne (sh_told hb hi) (rfl : cw_sh[50]? = some 5) (by decide)))).trans ((ri_ne wh504 (.inl (cw_kne (sh_told hb hi) (rfl : cw_sh[50]? = some 5) (by decide)))).trans ((m7 i hi).1 j hj)))))
  have hK44 : ∀ i, i < 4 → ∀ j, j < 9 → ri_at h509 (b + 16 + 2 * i + 1) j = 0 := fun i hi j hj => ((ri_frr Ch509 (sh_told1 hb hi) rfl (by decide +kernel)).trans ((ri_ne wh508 (.inl (cw_kne (sh_told1 hb hi) (rfl : cw_sh[50]? = some 5) (by decide)))).trans ((ri_ne wh506 (.inl (cw_kne (sh_told1 hb hi) (rfl : cw_sh[50]? = some 5) (by decide)))).trans ((ri_ne wh504 (.inl (cw_kne (sh_told1 hb hi) (rfl : cw_sh[50]? = some 5) (by decide)))).trans ((m7 i hi).2 j hj)))))
  have hwd0 : zWD b h509 (0, (fun _ => 0), 0, [], [], []) zD0 := by
    refine ⟨⟨⟨rfl, rfl, rfl⟩, rfl, rfl, rfl⟩, ⟨n2, fun o _ k hk => absurd hk (Nat.not_lt_zero k)⟩, ⟨fun j hj => (((ri_frr Ch509 (k := (b + 1)) (d := 28) hkb1 rfl (by decide +kernel)).trans ((ri_ne wh508 (.inl (cw_kne (k := (b + 1)) (d := 28) (k' := 50) (d' := 5) hkb1 rfl (by decide)))).trans ((ri_ne wh506 (.inl (cw_kne (k := (b + 1)) (d := 28) (k' := 50) (d' := 5) hkb1 rfl (by decide)))).trans (ri_ne wh504 (.inl (cw_kne (k := (b + 1)) (d := 28) (k' := 50) (d' := 5) hkb1 rfl (by decide)))))))).trans (m8 j hj), mem3 (fun j hj => (((ri_frr Ch509 (k := (b + 3)) (d := 30) hkb3 rfl (by decide +kernel)).trans ((ri_ne wh508 (.inl (cw_kne (k := (b + 3)) (d := 30) (k' := 50) (d' := 5) hkb3 rfl (by decide)))).trans ((ri_ne wh506 (.inl (cw_kne (k := (b + 3)) (d := 30) (k' := 50) (d' := 5) hkb3 rfl (by decide)))).trans (ri_ne wh504 (.inl (cw_kne (k := (b + 3)) (d := 30) (k' := 50) (d' := 5) hkb3 rfl (by decide)))))))).trans ((m6 j hj).1)) (fun j hj => (((ri_frr Ch509 (k := (b + 4)) (d := 31) hkb4 rfl (by decide +kernel)).trans ((ri_ne wh508 (.inl (cw_kne (k := (b + 4)) (d := 31) (k' := 50) (d' := 5) hkb4 rfl (by decide)))).trans ((ri_ne wh506 (.inl (cw_kne (k := (b + 4)) (d := 31) (k' := 50) (d' := 5) hkb4 rfl (by decide)))).trans (ri_ne wh504 (.inl (cw_kne (k := (b + 4)) (d := 31) (k' := 50) (d' := 5) hkb4 rfl (by decide)))))))).trans ((m6 j hj).2.1)) (fun j hj => (((ri_frr Ch509 (k := (b + 5)) (d := 32) hkb5 rfl (by decide +kernel)).trans ((ri_ne wh508 (.inl (cw_kne (k := (b + 5)) (d := 32) (k' := 50) (d' := 5) hkb5 rfl (by decide)))).trans ((ri_ne wh506 (.inl (cw_kne (k := (b + 5)) (d := 32) (k' := 50) (d' := 5) hkb5 rfl (by decide)))).trans (ri_ne wh504 (.inl (cw_kne (k := (b + 5)) (d := 32) (k' := 50) (d' := 5) hkb5 rfl (by decide)))))))).trans ((m6 j hj).2.2))⟩, fun i hi => ⟨⟨fun j hj => ?_, fun j hj => ?_⟩, ?_⟩, fun i _ hi => ⟨hK7 i hi, hK44 i hi⟩⟩
    · rw [hK7 i hi j (by omega)]; exact (zD0_t (by omega)).symm
    · rw [hK44 i hi j hj]; exact ((zD0_t (by omega)).trans (z16_0 j)).symm
    · rw [hK7 i hi 14 (by omega)]; exact (zD0_t (by omega)).symm
  have hA2 : ∀ i, ri_at h509 1 i = ri_at h0 1 i := fun i => ri_frr Fh509 (k := 1) (d := 13) rfl rfl (by decide +kernel)
  have hB2 : ∀ i, ri_at h509 52 i = ri_at h0 52 i := fun i => ri_frr Fh509 (k := 52) (d := 43) rfl rfl (by decide +kernel)
  exact tx_lpD (h0 := h509) (fun i => by rw [ht, ← hA2]) (fun i hi => by rw [hB2]; exact hwd i hi) hn9 hb ⟨p2e, pme⟩ (fun i hi => (Fh509.2 (b + 16 + 2 * i) 7 16 (sh_told hb hi) (by decide +kernel)).trans (hrp i hi)) (fun x h' c1 c2 c3 c4 => hQ x h' c1 (cw_Fr_tr Fh509 (cw_Fr_mono (by decide +kernel) c2)) c3 c4) 901 0 L511 x510 (0, (fun _ => 0), 0, [], [], []) zD0 0 h509 (by omega) Th509 cw_Fr_refl ⟨Nat.zero_le _, Zh509, by omega, by omega⟩ hsc hwd0 (by omega) rfl rfl (by omega) gL511_0 gL511_3
end TZ
