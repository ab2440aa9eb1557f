/-! ===== what formulas tell, the class: a formula ===== -/
def zlC (t : Nat → Int) (n p : Nat) (cl : List Int) : List Int := if (zk t n p = 4 ∧ zw t n p = 40) ∨ (zk t n p = 1 ∧ zw t n p = 23) then cl else cl ++ [if zk t n p = 3 then zw t n p else 10000 + (zw t n p - 24)]
def zlN (t : Nat → Int) (n p : Nat) (nm : Nat) : Nat := if zk t n p = 1 ∧ 24 ≤ zw t n p then nm ||| 2 ^ (zw t n p - 24).toNat else nm
def zsC (t : Nat → Int) (n p : Nat) (st cl : List Int) : List Int := cl ++ (zbp (if (zk t n p = 4 ∧ zw t n p = 41) ∧ 0 < zc0 st then 1 else if zrk (zsk (zk t n p) (zw t n p)) = 4 then 5 else zrk (zsk (zk t n p) (zw t n p))) st).map zsi
/-- a formula's code and the names that it uses -/
def zfD (t : Nat → Int) (n : Nat) : Nat → List Int → Int → Int → Int → Nat → List Int → Nat → List Int × Nat
  | 0, _, _, _, _, _, cl, nm => (cl, nm)
  | u + 1, st, kn, w, m, p, cl, nm => if zsk (zk t n p) (zw t n p) = 0 ∧ w = 0 ∧ zc0 st = 0 then (cl ++ (zbp 1 st).map zsi, nm) else
    if w = 1 then zo (zlf t n st kn m p) (fun s q => zfD t n u s.1 s.2.1 s.2.2.1 s.2.2.2 q (zlC t n p cl) (zlN t n p nm)) (cl, nm) else
    zo (zsg t n st kn m p) (fun s q => zfD t n u s.1 s.2.1 s.2.2.1 s.2.2.2 q (zsC t n p st cl) nm) (cl, nm)
theorem zfD_s {t : Nat → Int} {n u : Nat} {st : List Int} {kn w m : Int} {p : Nat} {cl : List Int} {nm : Nat} : zfD t n (u + 1) st kn w m p cl nm = if zsk (zk t n p) (zw t n p) = 0 ∧ w = 0 ∧ zc0 st = 0 then (cl ++ (zbp 1 st).map zsi, nm) else
    if w = 1 then zo (zlf t n st kn m p) (fun s q => zfD t n u s.1 s.2.1 s.2.2.1 s.2.2.2 q (zlC t n p cl) (zlN t n p nm)) (cl, nm) else
    zo (zsg t n st kn m p) (fun s q => zfD t n u s.1 s.2.1 s.2.2.1 s.2.2.2 q (zsC t n p st cl) nm) (cl, nm) := rfl
theorem zno_w {k w vc : Int} (h : tz_rel k w 2 vc) (h0 : 0 ≤ zno vc) : k = 1 ∧ w = 24 + zno vc := by
  have a := rl_pw h
  have b := a.2 rfl
  refine ⟨a.1.mpr rfl, ?_⟩
  unfold zno at h0 ⊢
  (repeat' split at h0) <;> (repeat' split) <;> omega
theorem zlN_b {t : Nat → Int} {n p nm : Nat} (h : nm < 1024) (hw : zk t n p = 1 → zw t n p ≤ 33) : zlN t n p nm < 1024 := by
  unfold zlN
  by_cases c : zk t n p = 1 ∧ 24 ≤ zw t n p
  · rw [if_pos c]; exact bt_1024 h (by have := hw c.1; omega)
  · rw [if_neg c]; exact h
section TZ
variable {G : Int} {X : cv_X} {Q : cv_O → Prop} {t : Nat → Int}
theorem ct_valueJ {h0 : cv_H} {n p : Nat} {b : Nat} (hb4 : cw_sh[b]? = some 4) (hk2 : cw_sh[b + 2]? = some 29) (hp7 : cw_at h0 53 7 = some (cv_r b)) (hp1 : cw_at h0 b 1 = some (cv_r (b + 2))) {st cl : List Int} {kn m : Int} {nm : Nat} (hT : cw_T G h0) (hS : zCs t n (.inr p) h0) (hF : zFC b h0 st kn 1 m) (hm01 : 0 ≤ m ∧ m ≤ 1) (hcc : ri_at h0 b 2 = cl.length) (hcl : zNm h0 (b + 2) 0 cl) (hnm : ri_at h0 53 4 = nm) (hn10 : nm < 1024) {s : zF4} {q : Nat} (ez : zlf t n st kn m p = .inr (s, q)) (hQ : ∀ (x : Int32) h', cw_T G h' → cw_Fr cw_Ds cw_sh kk_X0_readValue.2.2.2.2.2.1 h0 h' → zCs t n (.inr p) h' → x.toInt = 0 → zFC b h' s.1 s.2.1 s.2.2.1 s.2.2.2 → q = zx t n p → ri_at h' b 2 = (zlC t n p cl).length → zNm h' (b + 2) 0 (zlC t n p cl) → ri_at h' 53 4 = ((zlN t n p nm : Nat) : Int) → zlN t n p nm < 1024 → Q (some (cv_i x), h')) : cw_X X 2 Q 0 (cv_ent 0 [cv_r 53]) [] h0 := by
  have a : cw_X X 2 (fun o => ∃ (x : Int32) (hb : cv_H), o = (some (cv_i x), hb) ∧ cw_T G hb ∧ cw_Fr cw_Ds cw_sh kk_X0_readValue.2.2.2.2.2.1 h0 hb ∧ zCs t n (.inr p) hb ∧ x.toInt = 0 ∧ zFC b hb s.1 s.2.1 s.2.2.1 s.2.2.2 ∧ q = zx t n p) 0 (cv_ent 0 [cv_r 53]) [] h0 :=
    ct_readValue hb4 hp7 hT hS hF hm01 (fun x hb b1 b2 b3 b4 => ⟨x, hb, rfl, b1, b2, b3, by
      rcases b4 with ⟨s', e1, e2, e3⟩ | ⟨c, e1, -, -⟩
      · rw [ez] at e1; cases e1; exact ⟨e2, e3, rfl⟩
      · rw [ez] at e1; cases e1⟩)
  obtain ⟨ho, hrw, hhc, hop, hwv, hmn, hco, hkn, hc0, hk64, hb8⟩ := id hF
  have hzl := zc_len ho
  have b9 : cw_X X 2 (fun o => ∃ (x : Int32) (hb : cv_H), o = (some (cv_i x), hb) ∧ (x.toInt ≠ 0 ∨ (ri_at hb b 2 = cl.length ∧ zNm hb (b + 2) 0 cl ∧ ri_at hb 53 4 = nm ∧ (ri_at h0 51 4 = 6 ∨ ri_at h0 51 4 = 2 ∧ ri_at h0 51 6 = 33)) ∨ (¬ ri_at h0 51 4 = 6 ∧ ¬ (ri_at h0 51 4 = 2 ∧ ri_at h0 51 6 = 33) ∧ (ri_at h0 51 4 = 4 ∧ ri_at hb b 2 = cl.length + 1 ∧ zNm hb (b + 2) 0 (cl ++ [ri_at h0 51 6]) ∧ ri_at hb 53 4 = nm ∨ ri_at h0 51 4 = 2 ∧ 0 ≤ zno (ri_at h0 51 6) ∧ ri_at hb b 2 = cl.length + 1 ∧ zNm hb (b + 2) 0 (cl ++ [10000 + zno (ri_at h0 51 6)]) ∧ ri_at hb 53 4 = ((nm ||| 2 ^ (zno (ri_at h0 51 6)).toNat : Nat) : Int))))) 0 (cv_ent 0 [cv_r 53]) [] h0 :=
    ct_readValueD hb4 hk2 hp7 hp1 hT hrw hhc (by omega) hop (by omega) hkn hcc (by omega) hcl hnm hn10 rfl rfl (fun x hb b1 b2 b3 => ⟨x, hb, rfl, b3⟩)
  refine cw_X_mono (cw_X_and a b9) ?_
  rintro o ⟨⟨x, hb, rfl, a1, a2, a3, a4, a5, a6⟩, x2, hb2, e, c1⟩
  cases e
  have hrel : tz_rel (zk t n p) (zw t n p) (ri_at h0 51 4) (ri_at h0 51 6) := (zCs_at hS).2.2.2.2.1
  have ra := rl_va hrel
  have rp := rl_pa hrel
  have rw' := (rl_pw hrel).2
  have hw33 : zk t n p = 1 → zw t n p ≤ 33 := fun q => by have := rw' (ra.2.2.2.2.mpr q); clear ra rp rw'; unfold tz_rel at hrel; omega
  refine hQ x hb a1 a2 a3 a4 a5 a6 ?_ ?_ ?_ (zlN_b hn10 hw33)
  · unfold zlC
    rcases c1 with c1 | ⟨c1, c2, c3, c4⟩ | ⟨c1, c2, c3⟩
    · exact absurd a4 c1
    · rw [if_pos (by rcases c4 with c4 | c4; exact .inl (ra.1.mp c4); exact .inr (ra.2.1.mp c4))]; exact c1
    · rw [if_neg (by rintro (e | e); exact c1 (ra.1.mpr e); exact c2 (ra.2.1.mpr e)), List.length_append, List.length_singleton]
      rcases c3 with c3 | c3
      · exact c3.2.1
      · exact c3.2.2.1
  · unfold zlC
    rcases c1 with c1 | ⟨c1, c2, c3, c4⟩ | ⟨c1, c2, c3⟩
    · exact absurd a4 c1
    · rw [if_pos (by rcases c4 with c4 | c4; exact .inl (ra.1.mp c4); exact .inr (ra.2.1.mp c4))]; exact c2
    · have nn : ¬ ((zk t n p = 4 ∧ zw t n p = 40) ∨ (zk t n p = 1 ∧ zw t n p = 23)) := by rintro (e | e); exact c1 (ra.1.mpr e); exact c2 (ra.2.1.mpr e)
      rw [if_neg nn]
      rcases c3 with ⟨d1, d2, d3, d4⟩ | ⟨d1, d2, d3, d4, d5⟩
      · have k3 := ra.2.2.1.mp d1
        rw [if_pos k3]
        have nb : ¬ 9999 < zw t n p := by
          intro hb
          unfold zlf at ez
          rw [if_neg (fun e => nn (.inl e)), if_neg (fun e => nn (.inr e.1)), if_pos (.inr k3), if_pos ⟨k3, hb⟩] at ez
          cases ez
        rw [← (rp.2.2.2 k3).2.2.1 (by omega)]
        exact d3
      · rw [d1] at hrel
        obtain ⟨e1, e2⟩ := zno_w hrel d2
        rw [if_neg (by rw [e1]; decide), e2, show (24 + zno (ri_at h0 51 6) - 24) = zno (ri_at h0 51 6) from by omega]
        exact d4
  · unfold zlN
    rcases c1 with c1 | ⟨c1, c2, c3, c4⟩ | ⟨c1, c2, c3⟩
    · exact absurd a4 c1
    · rw [if_neg (by
        rcases c4 with c4 | c4
        · have := ra.1.mp c4; omega
        · have := ra.2.1.mp c4; omega)]
      exact c3
    · rcases c3 with ⟨d1, d2, d3, d4⟩ | ⟨d1, d2, d3, d4, d5⟩
      · have k3 := ra.2.2.1.mp d1
        rw [if_neg (by omega)]
        exact d4
      · rw [d1] at hrel
        obtain ⟨e1, e2⟩ := zno_w hrel d2
        rw [if_pos ⟨e1, by omega⟩, e2, show (24 + zno (ri_at h0 51 6) - 24) = zno (ri_at h0 51 6) from by omega]
        exact d5
theorem ct_jointJ {h0 : cv_H} {n p : Nat} {b : Nat} (hb4 : cw_sh[b]? = some 4) (hk2 : cw_sh[b + 2]? = some 29) (hp7 : cw_at h0 53 7 = some (cv_r b)) (hp1 : cw_at h0 b 1 = some (cv_r (b + 2))) {st cl : List Int} {kn m : Int} {nm : Nat} (hT : cw_T G h0) (hS : zCs t n (.inr p) h0) (hF : zFC b h0 st kn 0 m) (hm01 : 0 ≤ m ∧ m ≤ 1) (hcc : ri_at h0 b 2 = cl.length) (hcl : zNm h0 (b + 2) 0 cl) (hnm : ri_at h0 53 4 = nm) (hn10 : nm < 1024) {s : zF4} {q : Nat} (ez : zsg t n st kn m p = .inr (s, q)) (hQ : ∀ (x : Int32) h', cw_T G h' → cw_Fr cw_Ds cw_sh kk_X0_readJoint.2.2.2.2.2.1 h0 h' → zCs t n (.inr p) h' → x.toInt = 0 → zFC b h' s.1 s.2.1 s.2.2.1 s.2.2.2 → q = zx t n p → ri_at h' b 2 = (zsC t n p st cl).length → zNm h' (b + 2) 0 (zsC t n p st cl) → ri_at h' 53 4 = ((nm : Nat) : Int) → nm < 1024 → Q (some (cv_i x), h')) : cw_X X 6 Q 0 (cv_ent 0 [cv_r 53]) [] h0 := by
  have a : cw_X X 6 (fun o => ∃ (x : Int32) (hb : cv_H), o = (some (cv_i x), hb) ∧ cw_T G hb ∧ cw_Fr cw_Ds cw_sh kk_X0_readJoint.2.2.2.2.2.1 h0 hb ∧ zCs t n (.inr p) hb ∧ x.toInt = 0 ∧ zFC b hb s.1 s.2.1 s.2.2.1 s.2.2.2 ∧ q = zx t n p) 0 (cv_ent 0 [cv_r 53]) [] h0 :=
    ct_readJoint hb4 hp7 hT hS hF (fun x hb b1 b2 b3 b4 => ⟨x, hb, rfl, b1, b2, b3, by
      rcases b4 with ⟨s', e1, e2, e3⟩ | ⟨c, e1, -, -⟩
      · rw [ez] at e1; cases e1; exact ⟨e2, e3, rfl⟩
      · rw [ez] at e1; cases e1⟩)
  obtain ⟨ho, hrw, hhc, hop, hwv, hmn, hco, hkn, hc0, hk64, hb8⟩ := id hF
  have hzl := zc_len ho
  have hrel : tz_rel (zk t n p) (zw t n p) (ri_at h0 51 4) (ri_at h0 51 6) := (zCs_at hS).2.2.2.2.1
  have b9 : cw_X X 6 (fun o => ∃ (x : Int32) (hb : cv_H), o = (some (cv_i x), hb) ∧ (x.toInt ≠ 0 ∨ (ri_at hb 53 4 = nm ∧ ((ri_at h0 51 4 = 7 ∧ 0 < zc0 st) ∧ ri_at hb b 2 = (cl ++ (zbp 1 st).map zsi).length ∧ zNm hb (b + 2) 0 (cl ++ (zbp 1 st).map zsi) ∨ ¬ (ri_at h0 51 4 = 7 ∧ 0 < zc0 st) ∧ ¬ zsk (zk t n p) (zw t n p) = 0 ∧ ri_at hb b 2 = (cl ++ (zbp (if zrk (zsk (zk t n p) (zw t n p)) = 4 then 5 else zrk (zsk (zk t n p) (zw t n p))) st).map zsi).length ∧ zNm hb (b + 2) 0 (cl ++ (zbp (if zrk (zsk (zk t n p) (zw t n p)) = 4 then 5 else zrk (zsk (zk t n p) (zw t n p))) st).map zsi))))) 0 (cv_ent 0 [cv_r 53]) [] h0 :=
    ct_readJointD hb4 hk2 hp7 hp1 hT ho hrw hhc (by omega) hop hkn hk64 hcc (by omega) hcl hnm rfl rfl hrel (fun x hb b1 b2 b3 => ⟨x, hb, rfl, b3⟩)
  refine cw_X_mono (cw_X_and a b9) ?_
  rintro o ⟨⟨x, hb, rfl, a1, a2, a3, a4, a5, a6⟩, x2, hb2, e, c1⟩
  cases e
  have rp := rl_pa hrel
  have c2 := c1.resolve_left (fun e => e a4)
  refine hQ x hb a1 a2 a3 a4 a5 a6 ?_ ?_ c2.1 hn10
  · unfold zsC
    rcases c2.2 with ⟨d1, d2, d3⟩ | ⟨d1, d2, d3, d4⟩
    · rw [if_pos ⟨rp.2.1.mp d1.1, d1.2⟩]; exact d2
    · rw [if_neg (fun e => d1 ⟨rp.2.1.mpr e.1, e.2⟩)]; exact d3
  · unfold zsC
    rcases c2.2 with ⟨d1, d2, d3⟩ | ⟨d1, d2, d3, d4⟩
    · rw [if_pos ⟨rp.2.1.mp d1.1, d1.2⟩]; exact d3
    · rw [if_neg (fun e => d1 ⟨rp.2.1.mpr e.1, e.2⟩)]; exact d4
set_option maxHeartbeats 8000000 in
theorem ri_lpD {h0 : cv_H} {n : Nat} (ht : ∀ i, t i = ri_at h0 1 i % 256) (hwd : ∀ i, i < 34 → ri_at h0 52 i = tz_wc.getD i 0) (hn9 : n ≤ 900)  {b : Nat} (hb4 : cw_sh[b]? = some 4) (hk2 : cw_sh[b + 2]? = some 29) (hp7 : cw_at h0 53 7 = some (cv_r b)) (hp1 : cw_at h0 b 1 = some (cv_r (b + 2))) {k0 : Int} {q0 : Nat} {R : List Int × Nat} (hQ : ∀ (x : Int32) h', cw_T G h' → cw_Fr cw_Ds cw_sh mk_fi h0 h' → zCs t n (.inr q0) h' → ri_at h' b 2 = R.1.length → zNm h' (b + 2) 0 R.1 → ri_at h' 53 4 = ((R.2 : Nat) : Int) → Q (some (cv_i x), h')) :
    ∀ (u i : Nat) (L : cv_L) (I : Int32) (st : List Int) (kn w m : Int) (p : Nat) (cl : List Int) (nm : Nat) (h : cv_H), i + u = 901 → cw_T G h → cw_Fr cw_Ds cw_sh mk_fi h0 h → zCs t n (.inr p) h → zFC b h st kn w m → n < u + p → zfc t n u st kn w m p = .inr (k0, q0) → zfD t n u st kn w m p cl nm = R → I.toInt = i → zNm h (b + 2) 0 cl → ri_at h b 2 = cl.length → ri_at h 53 4 = nm → nm < 1024 → cv_get L 0 = some (cv_r 53) → cv_get L 2 = some (cv_i I) → cw_X X 1 Q 32 L [] h := by
  have Fh0 : cw_Fr cw_Ds cw_sh mk_fi h0 h0 := cw_Fr_refl
  have hP7 : ∀ h, cw_Fr cw_Ds cw_sh mk_fi h0 h → cw_at h 53 7 = some (cv_r b) := fun h F => (F.2 53 0 7 rfl (by decide +kernel)).trans hp7
  have hP1 : ∀ h, cw_Fr cw_Ds cw_sh mk_fi h0 h → cw_at h b 1 = some (cv_r (b + 2)) := fun h F => (F.2 b 4 1 hb4 (by decide +kernel)).trans hp1
  have hA : ∀ h, cw_Fr cw_Ds cw_sh mk_fi h0 h → ∀ i, ri_at h 1 i = ri_at h0 1 i := fun h F i => ri_frr F (k := 1) (d := 13) rfl rfl (by decide +kernel)
  have hB0 : ∀ h, cw_Fr cw_Ds cw_sh mk_fi h0 h → ∀ i, ri_at h 52 i = ri_at h0 52 i := fun h F i => ri_frr F (k := 52) (d := 43) rfl rfl (by decide +kernel)
  intro u
  induction u with
  | zero =>
    intro i L I st kn w m p cl nm h hiu hT Fh hS hF hnp hE hB hI hcl hcc hnm hn10 g0 g2
    have := hS.1
    exfalso
    omega
  | succ u ih =>
    intro i L I st kn w m p cl nm h hiu hT Fh hS hF hnp hE hB hI hcl hcc hnm hn10 g0 g2
    have hpn := hS.1
    have hm01 : 0 ≤ m ∧ m ≤ 1 := by
      obtain ⟨x, -, r1, r2, r3⟩ := ri_fld (k := 53) (d := 0) (f := 6) hT rfl rfl rfl
      have := hF.2.2.2.2.2.1
      dsimp only at r2 r3
      omega
    have hw01 : w = 0 ∨ w = 1 := by
      obtain ⟨x, -, r1, r2, r3⟩ := ri_fld (k := 53) (d := 0) (f := 5) hT rfl rfl rfl
      have := hF.2.2.2.2.1
      dsimp only at r2 r3
      omega
    rcases hw01 with hw0 | hw1
    · subst hw0
      obtain ⟨ho, hrw, hhc, hop, hwv, hmn, hco, hkn, hc0, hk64, hb8⟩ := id hF
      have hzl := zc_len ho
      refine ex_il oq_X0_readInto_32 g2 ?_
      refine ex_si oq_X0_readInto_33 (m := 900) (by decide) (fun x301 hx301 => ?_)
      refine ex_if oq_X0_readInto_36 (t := 106) rfl rfl (fun (c302 : x301.toInt < I.toInt) => ?_) (fun (c302 : ¬ (x301.toInt < I.toInt)) => ?_)
      · exfalso; omega
      · refine ex_al oq_X0_readInto_39 g0 ?_
        obtain ⟨x303, ax303, rx303, lx303, ux303⟩ := ri_fld (k := 53) (d := 0) (f := 5) hT rfl rfl rfl
        try dsimp only at lx303 ux303
        refine ex_gf oq_X0_readInto_40 hT (k := 53) (d := 0) rfl rfl ax303 ?_
        have rx303 := (rx303.symm.trans hwv : x303.toInt = (0 : Int))
        refine ex_if0 oq_X0_readInto_43 (t := 68) rfl rfl (fun (c304 : ¬ x303.toInt = 0) => ?_) (fun (c304 : ¬ (¬ x303.toInt = 0)) => ?_)
        · exfalso; omega
        · refine ex_al oq_X0_readInto_46 g0 ?_
          obtain ⟨x305, ax305, rx305, lx305, ux305⟩ := ri_fld (k := 53) (d := 0) (f := 3) hT rfl rfl rfl
          try dsimp only at lx305 ux305
          refine ex_gf oq_X0_readInto_47 hT (k := 53) (d := 0) rfl rfl ax305 ?_
          clear lx305 ux305
          have rx305 := (rx305.symm.trans hop : x305.toInt = zc0 st)
          refine ex_if0 oq_X0_readInto_50 (t := 68) rfl rfl (fun (c306 : ¬ x305.toInt = 0) => ?_) (fun (c306 : ¬ (¬ x305.toInt = 0)) => ?_)
          · rw [zfc_s, if_neg (fun e => by omega), if_neg (by decide)] at hE
            obtain ⟨s, q, ez, hE2⟩ := zb2_e hE
            have hB2 := hB
            rw [zfD_s, if_neg (fun e => by omega), if_neg (by decide), zo_r ez] at hB2
            refine ex_al oq_X0_readInto_68 g0 ?_
            obtain ⟨x307, ax307, rx307, lx307, ux307⟩ := ri_fld (k := 53) (d := 0) (f := 5) hT rfl rfl rfl
            try dsimp only at lx307 ux307
            refine ex_gf oq_X0_readInto_69 hT (k := 53) (d := 0) rfl rfl ax307 ?_
            have rx307 := (rx307.symm.trans hwv : x307.toInt = (0 : Int))
            refine ex_if0 oq_X0_readInto_72 (t := 82) rfl rfl (fun (c308 : x307.toInt = 0) => ?_) (fun (c308 : ¬ (x307.toInt = 0)) => ?_)
            · refine ex_al oq_X0_readInto_82 g0 ?_
              refine ex_cv oq_X0_readInto_83 (by decide) hT (k := 53) (d := 0) (as := []) (stk := []) rfl rfl rfl rfl rfl rfl ⟨rfl, rfl⟩ (R := fun o => ∃ (x : Int32) (hb : cv_H), o = (some (cv_i x), hb) ∧ cw_T G hb ∧ cw_Fr cw_Ds cw_sh kk_X0_readJoint.2.2.2.2.2.1 h hb ∧ zCs t n (.inr p) hb ∧ x.toInt = 0 ∧ zFC b hb s.1 s.2.1 s.2.2.1 s.2.2.2 ∧ q = zx t n p ∧ ri_at hb b 2 = (zsC t n p st cl).length ∧ zNm hb (b + 2) 0 (zsC t n p st cl) ∧ ri_at hb 53 4 = ((nm : Nat) : Int) ∧ nm < 1024) (ct_jointJ (t := t) (n := n) (p := p) hb4 hk2 (hP7 _ Fh) (hP1 _ Fh) hT hS hF hm01 hcc hcl hnm hn10 ez (fun x hb b1 b2 b3 b4 b5 b6 b7 b8 b9 b10 => ⟨x, hb, rfl, b1, b2, b3, b4, b5, b6, b7, b8, b9, b10⟩)) (fun o ho9 => ?_)
              obtain ⟨x309, h310, rfl, Th310, Ch310, Sh310, x0, e3, rfl, f1, f2, f3, f4⟩ := ho9
              show cw_X _ _ _ _ _ [cv_i x309] h310
              have Fh310 : cw_Fr cw_Ds cw_sh mk_fi h0 h310 := cw_Fr_tr Fh (cw_Fr_mono (by decide +kernel) Ch310)
              refine ex_isA oq_X0_readInto_86 (fun L311 gL311_3 kL311 => ?_)
              have gL311_0 : cv_get L311 0 = some (cv_r 53) := kL311 0 _ (by decide) (fun q => absurd q (by decide)) g0
              have gL311_2 : cv_get L311 2 = some (cv_i I) := kL311 2 _ (by decide) (fun _ => rfl) g2
              refine ex_il oq_X0_readInto_87 gL311_3 ?_
              refine ex_if0 oq_X0_readInto_88 (t := 93) rfl rfl (fun (c312 : x309.toInt = 0) => ?_) (fun (c312 : ¬ (x309.toInt = 0)) => ?_)
              · refine ex_al oq_X0_readInto_93 gL311_0 ?_
                refine ex_gf oq_X0_readInto_94 Th310 (k := 53) (d := 0) rfl rfl (ri_ref (k := 53) (k' := 51) (d := 0) (f := 0) Th310 rfl rfl rfl (by decide) (ri_uniq (by decide +kernel))) ?_
                refine ex_cv oq_X0_readInto_97 (by decide) Th310 (k := 51) (d := 6) (as := []) (stk := []) rfl rfl rfl rfl rfl rfl ⟨rfl, rfl⟩ (R := fun o => ∃ hb : cv_H, o = (none, hb) ∧ cw_T G hb ∧ cw_Fr cw_Ds cw_sh kk_X6_step.2.2.2.2.2.1 h310 hb ∧ zCs t n (.inr (zx t n p)) hb) (ct_stepC (t := t) (n := n) (p := p) (fun i => by rw [ht, ← hA _ Fh310]) (fun i hi => by rw [hB0 _ Fh310]; exact hwd i hi) hn9 Th310 Sh310 (fun hb b1 b2 b3 => ⟨hb, rfl, b1, b2, b3⟩)) (fun o ho9 => ?_)
                obtain ⟨h313, rfl, Th313, Ch313, Sh313⟩ := ho9
                show cw_X _ _ _ _ _ [] h313
                have Fh313 : cw_Fr cw_Ds cw_sh mk_fi h0 h313 := cw_Fr_tr Fh310 (cw_Fr_mono (by decide +kernel) Ch313)
                have eh313_53_5 : ri_at h313 53 5 = ri_at h310 53 5 := ri_frf Ch313 (k := 53) (d := 0) rfl rfl (by decide +kernel)
                have eh313_53_3 : ri_at h313 53 3 = ri_at h310 53 3 := ri_frf Ch313 (k := 53) (d := 0) rfl rfl (by decide +kernel)
                obtain ⟨pnh313, yah313, ybh313, ych313, ydh313, yfh313⟩ := zCs_at Sh313
                obtain ⟨kch313, ykh313⟩ : ∃ k, ri_at h313 51 4 = k := ⟨_, rfl⟩
                obtain ⟨vch313, yvh313⟩ : ∃ k, ri_at h313 51 6 = k := ⟨_, rfl⟩
                rw [ykh313, yvh313] at ydh313
                replace ydh313 := zhd_i ydh313
                have zlh313 := zx_le (t := t) (n := n) (p := (zx t n p)) (by omega)
                refine ex_incA oq_X0_readInto_100 (v := I) (m := 1) gL311_2 (by decide) (by omega) (fun L315 x314 hx314 gL315_2 kL315 => ?_)
                have gL315_3 : cv_get L315 3 = some (cv_i x309) := kL315 3 _ (by decide) (fun q => absurd q (by decide)) gL311_3
                have gL315_0 : cv_get L315 0 = some (cv_r 53) := kL315 0 _ (by decide) (fun q => absurd q (by decide)) gL311_0
                refine ex_go oq_X0_readInto_103 (t := 32) rfl rfl ?_
                have hge := zsg_ge hS.1 ez
                exact ih (i + 1) L315 x314 s.1 s.2.1 s.2.2.1 s.2.2.2 (zx t n p) _ _ h313 (by omega) Th313 Fh313 Sh313 (zFC_fr hb4 Ch313 (by decide +kernel) e3) (by omega) hE2 hB2 (by omega) (zNm_eq f2 (fun i => ri_frr Ch313 (k := b + 2) (d := 29) hk2 rfl (by decide +kernel))) ((ri_frf Ch313 (k := b) (d := 4) hb4 rfl (by decide +kernel)).trans f1) ((ri_frf Ch313 (k := 53) (d := 0) rfl rfl (by decide +kernel)).trans f3) f4 gL315_0 gL315_2
              · exfalso; omega
            · exfalso; omega
          · refine ex_al oq_X0_readInto_53 g0 ?_
            obtain ⟨pnh, yah, ybh, ych, ydh, yfh⟩ := zCs_at hS
            obtain ⟨kch, ykh⟩ : ∃ k, ri_at h 51 4 = k := ⟨_, rfl⟩
            obtain ⟨vch, yvh⟩ : ∃ k, ri_at h 51 6 = k := ⟨_, rfl⟩
            rw [ykh, yvh] at ydh
            replace ydh := zhd_i ydh
            have zlh := zx_le (t := t) (n := n) (p := p) (by omega)
            refine ex_cv oq_X0_readInto_54 (by decide) hT (k := 53) (d := 0) (as := []) (stk := []) rfl rfl rfl rfl rfl rfl ⟨rfl, rfl⟩ (R := fun o => ∃ x : Int32, o = (some (cv_i x), h) ∧ x.toInt = zsv (zk t n p) (zw t n p)) (ct_signOf hT ykh yvh (show tz_rel _ _ _ _ from ydh) (fun x q => ⟨x, rfl, q⟩)) (fun o ho => ?_)
            obtain ⟨x316, rfl, qx316⟩ := ho
            show cw_X _ _ _ _ _ [cv_i x316] h
            refine ex_ic oq_X0_readInto_57 (m := (-1)) (by decide) (fun x317 hx317 => ?_)
            refine ex_if oq_X0_readInto_58 (t := 68) rfl rfl (fun (c318 : ¬ x316.toInt = x317.toInt) => ?_) (fun (c318 : ¬ (¬ x316.toInt = x317.toInt)) => ?_)
            · have hs0 : ¬ zsk (zk t n p) (zw t n p) = 0 := by intro q; unfold zsv at qx316; rw [if_pos q] at qx316; omega
              rw [zfc_s, if_neg (fun e => hs0 e.1), if_neg (by decide)] at hE
              obtain ⟨s, q, ez, hE2⟩ := zb2_e hE
              have hB2 := hB
              rw [zfD_s, if_neg (fun e => hs0 e.1), if_neg (by decide), zo_r ez] at hB2
              refine ex_al oq_X0_readInto_68 g0 ?_
              obtain ⟨x319, ax319, rx319, lx319, ux319⟩ := ri_fld (k := 53) (d := 0) (f := 5) hT rfl rfl rfl
              try dsimp only at lx319 ux319
              refine ex_gf oq_X0_readInto_69 hT (k := 53) (d := 0) rfl rfl ax319 ?_
              have rx319 := (rx319.symm.trans hwv : x319.toInt = (0 : Int))
              refine ex_if0 oq_X0_readInto_72 (t := 82) rfl rfl (fun (c320 : x319.toInt = 0) => ?_) (fun (c320 : ¬ (x319.toInt = 0)) => ?_)
              · refine ex_al oq_X0_readInto_82 g0 ?_
                refine ex_cv oq_X0_readInto_83 (by decide) hT (k := 53) (d := 0) (as := []) (stk := []) rfl rfl rfl rfl rfl rfl ⟨rfl, rfl⟩ (R := fun o => ∃ (x : Int32) (hb : cv_H), o = (some (cv_i x), hb) ∧ cw_T G hb ∧ cw_Fr cw_Ds cw_sh kk_X0_readJoint.2.2.2.2.2.1 h hb ∧ zCs t n (.inr p) hb ∧ x.toInt = 0 ∧ zFC b hb s.1 s.2.1 s.2.2.1 s.2.2.2 ∧ q = zx t n p ∧ ri_at hb b 2 = (zsC t n p st cl).length ∧ zNm hb (b + 2) 0 (zsC t n p st cl) ∧ ri_at hb 53 4 = ((nm : Nat) : Int) ∧ nm < 1024) (ct_jointJ (t := t) (n := n) (p := p) hb4 hk2 (hP7 _ Fh) (hP1 _ Fh) hT hS hF hm01 hcc hcl hnm hn10 ez (fun x hb b1 b2 b3 b4 b5 b6 b7 b8 b9 b10 => ⟨x, hb, rfl, b1, b2, b3, b4, b5, b6, b7, b8, b9, b10⟩)) (fun o ho9 => ?_)
                obtain ⟨x321, h322, rfl, Th322, Ch322, Sh322, x0, e3, rfl, f1, f2, f3, f4⟩ := ho9
                show cw_X _ _ _ _ _ [cv_i x321] h322
                have Fh322 : cw_Fr cw_Ds cw_sh mk_fi h0 h322 := cw_Fr_tr Fh (cw_Fr_mono (by decide +kernel) Ch322)
                refine ex_isA oq_X0_readInto_86 (fun L323 gL323_3 kL323 => ?_)
                have gL323_0 : cv_get L323 0 = some (cv_r 53) := kL323 0 _ (by decide) (fun q => absurd q (by decide)) g0
                have gL323_2 : cv_get L323 2 = some (cv_i I) := kL323 2 _ (by decide) (fun _ => rfl) g2
                refine ex_il oq_X0_readInto_87 gL323_3 ?_
                refine ex_if0 oq_X0_readInto_88 (t := 93) rfl rfl (fun (c324 : x321.toInt = 0) => ?_) (fun (c324 : ¬ (x321.toInt = 0)) => ?_)
                · refine ex_al oq_X0_readInto_93 gL323_0 ?_
                  refine ex_gf oq_X0_readInto_94 Th322 (k := 53) (d := 0) rfl rfl (ri_ref (k := 53) (k' := 51) (d := 0) (f := 0) Th322 rfl rfl rfl (by decide) (ri_uniq (by decide +kernel))) ?_
                  refine ex_cv oq_X0_readInto_97 (by decide) Th322 (k := 51) (d := 6) (as := []) (stk := []) rfl rfl rfl rfl rfl rfl ⟨rfl, rfl⟩ (R := fun o => ∃ hb : cv_H, o = (none, hb) ∧ cw_T G hb ∧ cw_Fr cw_Ds cw_sh kk_X6_step.2.2.2.2.2.1 h322 hb ∧ zCs t n (.inr (zx t n p)) hb) (ct_stepC (t := t) (n := n) (p := p) (fun i => by rw [ht, ← hA _ Fh322]) (fun i hi => by rw [hB0 _ Fh322]; exact hwd i hi) hn9 Th322 Sh322 (fun hb b1 b2 b3 => ⟨hb, rfl, b1, b2, b3⟩)) (fun o ho9 => ?_)
                  obtain ⟨h325, rfl, Th325, Ch325, Sh325⟩ := ho9
                  show cw_X _ _ _ _ _ [] h325
                  have Fh325 : cw_Fr cw_Ds cw_sh mk_fi h0 h325 := cw_Fr_tr Fh322 (cw_Fr_mono (by decide +kernel) Ch325)
                  have eh325_53_5 : ri_at h325 53 5 = ri_at h322 53 5 := ri_frf Ch325 (k := 53) (d := 0) rfl rfl (by decide +kernel)
                  have eh325_53_3 : ri_at h325 53 3 = ri_at h322 53 3 := ri_frf Ch325 (k := 53) (d := 0) rfl rfl (by decide +kernel)
                  clear yah ybh ych ykh yvh yfh
                  obtain ⟨pnh325, yah325, ybh325, ych325, ydh325, yfh325⟩ := zCs_at Sh325
                  obtain ⟨kch325, ykh325⟩ : ∃ k, ri_at h325 51 4 = k := ⟨_, rfl⟩
                  obtain ⟨vch325, yvh325⟩ : ∃ k, ri_at h325 51 6 = k := ⟨_, rfl⟩
                  rw [ykh325, yvh325] at ydh325
                  replace ydh325 := zhd_i ydh325
                  have zlh325 := zx_le (t := t) (n := n) (p := (zx t n p)) (by omega)
                  refine ex_incA oq_X0_readInto_100 (v := I) (m := 1) gL323_2 (by decide) (by omega) (fun L327 x326 hx326 gL327_2 kL327 => ?_)
                  have gL327_3 : cv_get L327 3 = some (cv_i x321) := kL327 3 _ (by decide) (fun q => absurd q (by decide)) gL323_3
                  have gL327_0 : cv_get L327 0 = some (cv_r 53) := kL327 0 _ (by decide) (fun q => absurd q (by decide)) gL323_0
                  refine ex_go oq_X0_readInto_103 (t := 32) rfl rfl ?_
                  have hge := zsg_ge hS.1 ez
                  exact ih (i + 1) L327 x326 s.1 s.2.1 s.2.2.1 s.2.2.2 (zx t n p) _ _ h325 (by omega) Th325 Fh325 Sh325 (zFC_fr hb4 Ch325 (by decide +kernel) e3) (by omega) hE2 hB2 (by omega) (zNm_eq f2 (fun i => ri_frr Ch325 (k := b + 2) (d := 29) hk2 rfl (by decide +kernel))) ((ri_frf Ch325 (k := b) (d := 4) hb4 rfl (by decide +kernel)).trans f1) ((ri_frf Ch325 (k := 53) (d := 0) rfl rfl (by decide +kernel)).trans f3) f4 gL327_0 gL327_2
                · exfalso; omega
              · exfalso; omega
            · have hs0 : zsk (zk t n p) (zw t n p) = 0 := by
                by_cases q : zsk (zk t n p) (zw t n p) = 0
                · exact q
                · exfalso; unfold zsv at qx316; rw [if_neg q] at qx316; have := zsi_p (a := zsk (zk t n p) (zw t n p)) (by have := zsk_ok (show tz_rel _ _ _ _ from ydh); omega); omega
              refine ex_al oq_X0_readInto_61 g0 ?_
              refine ex_ic oq_X0_readInto_62 (m := 0) (by decide) (fun x328 hx328 => ?_)
              have hlh329 : (if x328.toInt = 0 then 1 else x328.toInt) = 1 := by split <;> omega
              refine ex_cv oq_X0_readInto_63 (by decide) hT (k := 53) (d := 0) (as := [cv_i x328]) (stk := []) rfl rfl rfl rfl rfl rfl ⟨rfl, rfl⟩ (R := fun o => ∃ hb : cv_H, o = (none, hb) ∧ cw_T G hb ∧ cw_Fr cw_Ds cw_sh kk_X0_release.2.2.2.2.2.1 h hb ∧ zNm hb (b + 2) 0 (cl ++ (zbp 1 st).map zsi) ∧ ri_at hb b 2 = (cl ++ (zbp 1 st).map zsi).length) (ct_releaseD hb4 hk2 (hP7 _ Fh) (hP1 _ Fh) (R := x328) (kn := kn) (st := st) (cl := cl) hT hk64 (by omega) ho hrw hhc hcc (by omega) (by omega) hcl (fun hb b1 b2 b3 b4 b5 b6 b7 b8 => by rw [hlh329] at b7 b8; exact ⟨hb, rfl, b1, b2, b7, b8⟩)) (fun o ho9 => ?_)
              obtain ⟨h329, rfl, Th329, Ch329, mh329, nh329⟩ := ho9
              show cw_X _ _ _ _ _ [] h329
              have Fh329 : cw_Fr cw_Ds cw_sh mk_fi h0 h329 := cw_Fr_tr Fh (cw_Fr_mono (by decide +kernel) Ch329)
              have Sh329 := zCs_fr Ch329 (by decide +kernel) hS
              refine ex_ic oq_X0_readInto_66 (m := 0) (by decide) (fun x330 hx330 => ?_)
              rw [zfc_s, if_pos ⟨hs0, rfl, by omega⟩] at hE
              rw [zfD_s, if_pos ⟨hs0, rfl, by omega⟩] at hB
              cases hE
              subst hB
              exact ex_reti oq_X0_readInto_67 rfl (hQ x330 h329 Th329 Fh329 Sh329 nh329 mh329 (((ri_frf Ch329 (k := 53) (d := 0) rfl rfl (by decide +kernel))).trans hnm))
    · subst hw1
      obtain ⟨ho, hrw, hhc, hop, hwv, hmn, hco, hkn, hc0, hk64, hb8⟩ := id hF
      have hzl := zc_len ho
      refine ex_il oq_X0_readInto_32 g2 ?_
      refine ex_si oq_X0_readInto_33 (m := 900) (by decide) (fun x101 hx101 => ?_)
      refine ex_if oq_X0_readInto_36 (t := 106) rfl rfl (fun (c102 : x101.toInt < I.toInt) => ?_) (fun (c102 : ¬ (x101.toInt < I.toInt)) => ?_)
      · exfalso; omega
      · refine ex_al oq_X0_readInto_39 g0 ?_
        obtain ⟨x103, ax103, rx103, lx103, ux103⟩ := ri_fld (k := 53) (d := 0) (f := 5) hT rfl rfl rfl
        try dsimp only at lx103 ux103
        refine ex_gf oq_X0_readInto_40 hT (k := 53) (d := 0) rfl rfl ax103 ?_
        have rx103 := (rx103.symm.trans hwv : x103.toInt = (1 : Int))
        refine ex_if0 oq_X0_readInto_43 (t := 68) rfl rfl (fun (c104 : ¬ x103.toInt = 0) => ?_) (fun (c104 : ¬ (¬ x103.toInt = 0)) => ?_)
        · refine ex_al oq_X0_readInto_68 g0 ?_
          obtain ⟨x105, ax105, rx105, lx105, ux105⟩ := ri_fld (k := 53) (d := 0) (f := 5) hT rfl rfl rfl
          try dsimp only at lx105 ux105
          refine ex_gf oq_X0_readInto_69 hT (k := 53) (d := 0) rfl rfl ax105 ?_
          have rx105 := (rx105.symm.trans hwv : x105.toInt = (1 : Int))
          refine ex_if0 oq_X0_readInto_72 (t := 82) rfl rfl (fun (c106 : x105.toInt = 0) => ?_) (fun (c106 : ¬ (x105.toInt = 0)) => ?_)
          · exfalso; omega
          · rw [zfc_s, if_neg (fun e => absurd e.2.1 (by decide)), if_pos rfl] at hE
            obtain ⟨s, q, ez, hE2⟩ := zb2_e hE
            have hB2 := hB
            rw [zfD_s, if_neg (fun e => absurd e.2.1 (by decide)), if_pos rfl, zo_r ez] at hB2
            refine ex_al oq_X0_readInto_75 g0 ?_
            refine ex_cv oq_X0_readInto_76 (by decide) hT (k := 53) (d := 0) (as := []) (stk := []) rfl rfl rfl rfl rfl rfl ⟨rfl, rfl⟩ (R := fun o => ∃ (x : Int32) (hb : cv_H), o = (some (cv_i x), hb) ∧ cw_T G hb ∧ cw_Fr cw_Ds cw_sh kk_X0_readValue.2.2.2.2.2.1 h hb ∧ zCs t n (.inr p) hb ∧ x.toInt = 0 ∧ zFC b hb s.1 s.2.1 s.2.2.1 s.2.2.2 ∧ q = zx t n p ∧ ri_at hb b 2 = (zlC t n p cl).length ∧ zNm hb (b + 2) 0 (zlC t n p cl) ∧ ri_at hb 53 4 = ((zlN t n p nm : Nat) : Int) ∧ zlN t n p nm < 1024) (ct_valueJ (t := t) (n := n) (p := p) hb4 hk2 (hP7 _ Fh) (hP1 _ Fh) hT hS hF hm01 hcc hcl hnm hn10 ez (fun x hb b1 b2 b3 b4 b5 b6 b7 b8 b9 b10 => ⟨x, hb, rfl, b1, b2, b3, b4, b5, b6, b7, b8, b9, b10⟩)) (fun o ho9 => ?_)
            obtain ⟨x107, h108, rfl, Th108, Ch108, Sh108, x0, e3, rfl, f1, f2, f3, f4⟩ := ho9
            show cw_X _ _ _ _ _ [cv_i x107] h108
            have Fh108 : cw_Fr cw_Ds cw_sh mk_fi h0 h108 := cw_Fr_tr Fh (cw_Fr_mono (by decide +kernel) Ch108)
            refine ex_go oq_X0_readInto_79 (t := 86) rfl rfl ?_
            refine ex_isA oq_X0_readInto_86 (fun L109 gL109_3 kL109 => ?_)
            have gL109_0 : cv_get L109 0 = some (cv_r 53) := kL109 0 _ (by decide) (fun q => absurd q (by decide)) g0
            have gL109_2 : cv_get L109 2 = some (cv_i I) := kL109 2 _ (by decide) (fun _ => rfl) g2
            refine ex_il oq_X0_readInto_87 gL109_3 ?_
            refine ex_if0 oq_X0_readInto_88 (t := 93) rfl rfl (fun (c110 : x107.toInt = 0) => ?_) (fun (c110 : ¬ (x107.toInt = 0)) => ?_)
            · refine ex_al oq_X0_readInto_93 gL109_0 ?_
              refine ex_gf oq_X0_readInto_94 Th108 (k := 53) (d := 0) rfl rfl (ri_ref (k := 53) (k' := 51) (d := 0) (f := 0) Th108 rfl rfl rfl (by decide) (ri_uniq (by decide +kernel))) ?_
              refine ex_cv oq_X0_readInto_97 (by decide) Th108 (k := 51) (d := 6) (as := []) (stk := []) rfl rfl rfl rfl rfl rfl ⟨rfl, rfl⟩ (R := fun o => ∃ hb : cv_H, o = (none, hb) ∧ cw_T G hb ∧ cw_Fr cw_Ds cw_sh kk_X6_step.2.2.2.2.2.1 h108 hb ∧ zCs t n (.inr (zx t n p)) hb) (ct_stepC (t := t) (n := n) (p := p) (fun i => by rw [ht, ← hA _ Fh108]) (fun i hi => by rw [hB0 _ Fh108]; exact hwd i hi) hn9 Th108 Sh108 (fun hb b1 b2 b3 => ⟨hb, rfl, b1, b2, b3⟩)) (fun o ho9 => ?_)
              obtain ⟨h111, rfl, Th111, Ch111, Sh111⟩ := ho9
              show cw_X _ _ _ _ _ [] h111
              have Fh111 : cw_Fr cw_Ds cw_sh mk_fi h0 h111 := cw_Fr_tr Fh108 (cw_Fr_mono (by decide +kernel) Ch111)
              have eh111_53_5 : ri_at h111 53 5 = ri_at h108 53 5 := ri_frf Ch111 (k := 53) (d := 0) rfl rfl (by decide +kernel)
              have eh111_53_3 : ri_at h111 53 3 = ri_at h108 53 3 := ri_frf Ch111 (k := 53) (d := 0) rfl rfl (by decide +kernel)
              obtain ⟨pnh111, yah111, ybh111, ych111, ydh111, yfh111⟩ := zCs_at Sh111
              obtain ⟨kch111, ykh111⟩ : ∃ k, ri_at h111 51 4 = k := ⟨_, rfl⟩
              obtain ⟨vch111, yvh111⟩ : ∃ k, ri_at h111 51 6 = k := ⟨_, rfl⟩
              rw [ykh111, yvh111] at ydh111
              replace ydh111 := zhd_i ydh111
              have zlh111 := zx_le (t := t) (n := n) (p := (zx t n p)) (by omega)
              refine ex_incA oq_X0_readInto_100 (v := I) (m := 1) gL109_2 (by decide) (by omega) (fun L113 x112 hx112 gL113_2 kL113 => ?_)
              have gL113_3 : cv_get L113 3 = some (cv_i x107) := kL113 3 _ (by decide) (fun q => absurd q (by decide)) gL109_3
              have gL113_0 : cv_get L113 0 = some (cv_r 53) := kL113 0 _ (by decide) (fun q => absurd q (by decide)) gL109_0
              refine ex_go oq_X0_readInto_103 (t := 32) rfl rfl ?_
              have hge := zlf_ge hS.1 ez
              exact ih (i + 1) L113 x112 s.1 s.2.1 s.2.2.1 s.2.2.2 (zx t n p) _ _ h111 (by omega) Th111 Fh111 Sh111 (zFC_fr hb4 Ch111 (by decide +kernel) e3) (by omega) hE2 hB2 (by omega) (zNm_eq f2 (fun i => ri_frr Ch111 (k := b + 2) (d := 29) hk2 rfl (by decide +kernel))) ((ri_frf Ch111 (k := b) (d := 4) hb4 rfl (by decide +kernel)).trans f1) ((ri_frf Ch111 (k := 53) (d := 0) rfl rfl (by decide +kernel)).trans f3) f4 gL113_0 gL113_2
            · exfalso; omega
        · exfalso; omega
theorem ct_readIntoD {h0 : cv_H} {n p : Nat} (ht : ∀ i, t i = ri_at h0 1 i % 256) (hwd : ∀ i, i < 34 → ri_at h0 52 i = tz_wc.getD i 0) (hn9 : n ≤ 900) (hT : cw_T G h0) {b : Nat} (hb4 : cw_sh[b]? = some 4) (hk2 : cw_sh[b + 2]? = some 29) (hp1 : cw_at h0 b 1 = some (cv_r (b + 2))) {kn : Int} {cl : List Int} (hS : zCs t n (.inr p) h0) (hco : ri_at h0 b 2 = kn) (hkn : ri_at h0 b 3 = kn) (hk64 : kn ≤ 64) (hcc : ri_at h0 b 2 = cl.length) (hcl : zNm h0 (b + 2) 0 cl) {k0 : Int} {q0 : Nat} (hE : zfc t n 901 [] kn 1 1 p = .inr (k0, q0)) (hQ : ∀ (x : Int32) h', cw_T G h' → cw_Fr cw_Ds cw_sh kk_X0_readInto.2.2.2.2.2.1 h0 h' → zCs t n (.inr q0) h' → ri_at h' b 2 = (zfD t n 901 [] kn 1 1 p cl 0).1.length → zNm h' (b + 2) 0 (zfD t n 901 [] kn 1 1 p cl 0).1 → ri_at h' 53 4 = (((zfD t n 901 [] kn 1 1 p cl 0).2 : Nat) : Int) → Q (some (cv_i x), h')) : cw_X X 1 Q 0 (cv_ent 0 [cv_r 53, cv_r b]) [] h0 := by
  have Fh0 : cw_Fr cw_Ds cw_sh kk_X0_readInto.2.2.2.2.2.1 h0 h0 := cw_Fr_refl
  have hP1 : ∀ h, cw_Fr cw_Ds cw_sh kk_X0_readInto.2.2.2.2.2.1 h0 h → cw_at h b 1 = some (cv_r (b + 2)) := fun h F => (F.2 b 4 1 hb4 (by decide +kernel)).trans hp1
  refine ex_al oq_X0_readInto_0 rfl ?_
  refine ex_al oq_X0_readInto_1 rfl ?_
  refine ex_pfr oq_X0_readInto_2 hT (k := 53) (d := 0) (v := b) rfl rfl rfl (by decide) hb4 rfl (fun h501 Th501 wh501 => ?_)
  have Fh501 : cw_Fr cw_Ds cw_sh kk_X0_readInto.2.2.2.2.2.1 h0 h501 := cw_Fr_tr Fh0 (cw_Fr_wrf wh501 (k := 53) (d := 0) rfl rfl (by decide +kernel))
  have eh501_53_2 : ri_at h501 53 2 = ri_at h0 53 2 := ri_ne wh501 (.inr (by decide))
  have eh501_53_3 : ri_at h501 53 3 = ri_at h0 53 3 := ri_ne wh501 (.inr (by decide))
  have eh501_53_5 : ri_at h501 53 5 = ri_at h0 53 5 := ri_ne wh501 (.inr (by decide))
  have eh501_53_6 : ri_at h501 53 6 = ri_at h0 53 6 := ri_ne wh501 (.inr (by decide))
  have eh501_b_2 : ri_at h501 b 2 = kn := (ri_ne wh501 (.inl (cw_kne (k := b) (d := 4) (k' := 53) (d' := 0) hb4 rfl (by decide)))).trans hco
  have eh501_b_3 : ri_at h501 b 3 = kn := (ri_ne wh501 (.inl (cw_kne (k := b) (d := 4) (k' := 53) (d' := 0) hb4 rfl (by decide)))).trans hkn
  have eh501_53_4 : ri_at h501 53 4 = ri_at h0 53 4 := ri_ne wh501 (.inr (by decide))
  have Sh501 := zCs_wr (d := 0) (k := 53) wh501 rfl hS (.inl ⟨by decide, by decide⟩)
  refine ex_al oq_X0_readInto_5 rfl ?_
  refine ex_ic oq_X0_readInto_6 (m := 0) (by decide) (fun x502 hx502 => ?_)
  refine ex_pfi oq_X0_readInto_7 Th501 (k := 53) (d := 0) rfl rfl rfl (cw_i32 _).1 (cw_i32 _).2 (fun h503 Th503 wh503 => ?_)
  have Fh503 : cw_Fr cw_Ds cw_sh kk_X0_readInto.2.2.2.2.2.1 h0 h503 := cw_Fr_tr Fh501 (cw_Fr_wrf wh503 (k := 53) (d := 0) rfl rfl (by decide +kernel))
  have eh503_53_2 : ri_at h503 53 2 = x502.toInt := ri_self wh503
  have eh503_53_3 : ri_at h503 53 3 = ri_at h0 53 3 := (ri_ne wh503 (.inr (by decide))).trans eh501_53_3
  clear eh501_53_3
  have eh503_53_5 : ri_at h503 53 5 = ri_at h0 53 5 := (ri_ne wh503 (.inr (by decide))).trans eh501_53_5
  clear eh501_53_5
  have eh503_53_6 : ri_at h503 53 6 = ri_at h0 53 6 := (ri_ne wh503 (.inr (by decide))).trans eh501_53_6
  clear eh501_53_6
  have eh503_b_2 : ri_at h503 b 2 = kn := (ri_ne wh503 (.inl (cw_kne (k := b) (d := 4) (k' := 53) (d' := 0) hb4 rfl (by decide)))).trans eh501_b_2
  clear eh501_b_2
  have eh503_b_3 : ri_at h503 b 3 = kn := (ri_ne wh503 (.inl (cw_kne (k := b) (d := 4) (k' := 53) (d' := 0) hb4 rfl (by decide)))).trans eh501_b_3
  clear eh501_b_3
  have eh503_53_4 : ri_at h503 53 4 = ri_at h0 53 4 := (ri_ne wh503 (.inr (by decide))).trans eh501_53_4
  clear eh501_53_4
  have Sh503 := zCs_wr (d := 0) (k := 53) wh503 rfl Sh501 (.inl ⟨by decide, by decide⟩)
  refine ex_al oq_X0_readInto_10 rfl ?_
  refine ex_ic oq_X0_readInto_11 (m := 0) (by decide) (fun x504 hx504 => ?_)
  refine ex_pfi oq_X0_readInto_12 Th503 (k := 53) (d := 0) rfl rfl rfl (cw_i32 _).1 (cw_i32 _).2 (fun h505 Th505 wh505 => ?_)
  have Fh505 : cw_Fr cw_Ds cw_sh kk_X0_readInto.2.2.2.2.2.1 h0 h505 := cw_Fr_tr Fh503 (cw_Fr_wrf wh505 (k := 53) (d := 0) rfl rfl (by decide +kernel))
  have eh505_53_2 : ri_at h505 53 2 = x502.toInt := (ri_ne wh505 (.inr (by decide))).trans eh503_53_2
  clear eh503_53_2
  have eh505_53_3 : ri_at h505 53 3 = x504.toInt := ri_self wh505
  have eh505_53_5 : ri_at h505 53 5 = ri_at h0 53 5 := (ri_ne wh505 (.inr (by decide))).trans eh503_53_5
  clear eh503_53_5
  have eh505_53_6 : ri_at h505 53 6 = ri_at h0 53 6 := (ri_ne wh505 (.inr (by decide))).trans eh503_53_6
  clear eh503_53_6
  have eh505_b_2 : ri_at h505 b 2 = kn := (ri_ne wh505 (.inl (cw_kne (k := b) (d := 4) (k' := 53) (d' := 0) hb4 rfl (by decide)))).trans eh503_b_2
  clear eh503_b_2
  have eh505_b_3 : ri_at h505 b 3 = kn := (ri_ne wh505 (.inl (cw_kne (k := b) (d := 4) (k' := 53) (d' := 0) hb4 rfl (by decide)))).trans eh503_b_3
  clear eh503_b_3
  have eh505_53_4 : ri_at h505 53 4 = ri_at h0 53 4 := (ri_ne wh505 (.inr (by decide))).trans eh503_53_4
  clear eh503_53_4
  have Sh505 := zCs_wr (d := 0) (k := 53) wh505 rfl Sh503 (.inl ⟨by decide, by decide⟩)
  refine ex_al oq_X0_readInto_15 rfl ?_
  refine ex_ic oq_X0_readInto_16 (m := 0) (by decide) (fun x506 hx506 => ?_)
  refine ex_pfi oq_X0_readInto_17 Th505 (k := 53) (d := 0) rfl rfl rfl (cw_i32 _).1 (cw_i32 _).2 (fun h507 Th507 wh507 => ?_)
  have Fh507 : cw_Fr cw_Ds cw_sh kk_X0_readInto.2.2.2.2.2.1 h0 h507 := cw_Fr_tr Fh505 (cw_Fr_wrf wh507 (k := 53) (d := 0) rfl rfl (by decide +kernel))
  have eh507_53_2 : ri_at h507 53 2 = x502.toInt := (ri_ne wh507 (.inr (by decide))).trans eh505_53_2
  clear eh505_53_2
  have eh507_53_3 : ri_at h507 53 3 = x504.toInt := (ri_ne wh507 (.inr (by decide))).trans eh505_53_3
  clear eh505_53_3
  have eh507_53_5 : ri_at h507 53 5 = ri_at h0 53 5 := (ri_ne wh507 (.inr (by decide))).trans eh505_53_5
  clear eh505_53_5
  have eh507_53_6 : ri_at h507 53 6 = ri_at h0 53 6 := (ri_ne wh507 (.inr (by decide))).trans eh505_53_6
  clear eh505_53_6
  have eh507_b_2 : ri_at h507 b 2 = kn := (ri_ne wh507 (.inl (cw_kne (k := b) (d := 4) (k' := 53) (d' := 0) hb4 rfl (by decide)))).trans eh505_b_2
  clear eh505_b_2
  have eh507_b_3 : ri_at h507 b 3 = kn := (ri_ne wh507 (.inl (cw_kne (k := b) (d := 4) (k' := 53) (d' := 0) hb4 rfl (by decide)))).trans eh505_b_3
  clear eh505_b_3
  have eh507_53_4 : ri_at h507 53 4 = x506.toInt := ri_self wh507
  have Sh507 := zCs_wr (d := 0) (k := 53) wh507 rfl Sh505 (.inl ⟨by decide, by decide⟩)
  refine ex_al oq_X0_readInto_20 rfl ?_
  refine ex_ic oq_X0_readInto_21 (m := 1) (by decide) (fun x508 hx508 => ?_)
  refine ex_pfb oq_X0_readInto_22 Th507 (k := 53) (d := 0) rfl rfl rfl (by omega) (by omega) (fun h509 Th509 wh509 => ?_)
  have Fh509 : cw_Fr cw_Ds cw_sh kk_X0_readInto.2.2.2.2.2.1 h0 h509 := cw_Fr_tr Fh507 (cw_Fr_wrf wh509 (k := 53) (d := 0) rfl rfl (by decide +kernel))
  have eh509_53_2 : ri_at h509 53 2 = x502.toInt := (ri_ne wh509 (.inr (by decide))).trans eh507_53_2
  clear eh507_53_2
  have eh509_53_3 : ri_at h509 53 3 = x504.toInt := (ri_ne wh509 (.inr (by decide))).trans eh507_53_3
  clear eh507_53_3
  have eh509_53_5 : ri_at h509 53 5 = x508.toInt := ri_self wh509
  have eh509_53_6 : ri_at h509 53 6 = ri_at h0 53 6 := (ri_ne wh509 (.inr (by decide))).trans eh507_53_6
  clear eh507_53_6
  have eh509_b_2 : ri_at h509 b 2 = kn := (ri_ne wh509 (.inl (cw_kne (k := b) (d := 4) (k' := 53) (d' := 0) hb4 rfl (by decide)))).trans eh507_b_2
  clear eh507_b_2
  have eh509_b_3 : ri_at h509 b 3 = kn := (ri_ne wh509 (.inl (cw_kne (k := b) (d := 4) (k' := 53) (d' := 0) hb4 rfl (by decide)))).trans eh507_b_3
  clear eh507_b_3
  have eh509_53_4 : ri_at h509 53 4 = x506.toInt := (ri_ne wh509 (.inr (by decide))).trans eh507_53_4
  clear eh507_53_4
  have Sh509 := zCs_wr (d := 0) (k := 53) wh509 rfl Sh507 (.inl ⟨by decide, by decide⟩)
  refine ex_al oq_X0_readInto_25 rfl ?_
  refine ex_ic oq_X0_readInto_26 (m := 1) (by decide) (fun x510 hx510 => ?_)
  refine ex_pfb oq_X0_readInto_27 Th509 (k := 53) (d := 0) rfl rfl rfl (by omega) (by omega) (fun h511 Th511 wh511 => ?_)
  have Fh511 : cw_Fr cw_Ds cw_sh kk_X0_readInto.2.2.2.2.2.1 h0 h511 := cw_Fr_tr Fh509 (cw_Fr_wrf wh511 (k := 53) (d := 0) rfl rfl (by decide +kernel))
  have eh511_53_2 : ri_at h511 53 2 = x502.toInt := (ri_ne wh511 (.inr (by decide))).trans eh509_53_2
  clear eh509_53_2
  have eh511_53_3 : ri_at h511 53 3 = x504.toInt := (ri_ne wh511 (.inr (by decide))).trans eh509_53_3
  clear eh509_53_3
  have eh511_53_5 : ri_at h511 53 5 = x508.toInt := (ri_ne wh511 (.inr (by decide))).trans eh509_53_5
  clear eh509_53_5
  have eh511_53_6 : ri_at h511 53 6 = x510.toInt := ri_self wh511
  have eh511_b_2 : ri_at h511 b 2 = kn := (ri_ne wh511 (.inl (cw_kne (k := b) (d := 4) (k' := 53) (d' := 0) hb4 rfl (by decide)))).trans eh509_b_2
  clear eh509_b_2
  have eh511_b_3 : ri_at h511 b 3 = kn := (ri_ne wh511 (.inl (cw_kne (k := b) (d := 4) (k' := 53) (d' := 0) hb4 rfl (by decide)))).trans eh509_b_3
  clear eh509_b_3
  have eh511_53_4 : ri_at h511 53 4 = x506.toInt := (ri_ne wh511 (.inr (by decide))).trans eh509_53_4
  clear eh509_53_4
  have Sh511 := zCs_wr (d := 0) (k := 53) wh511 rfl Sh509 (.inl ⟨by decide, by decide⟩)
  refine ex_ic oq_X0_readInto_30 (m := 0) (by decide) (fun x512 hx512 => ?_)
  refine ex_isA oq_X0_readInto_31 (fun L513 gL513_2 kL513 => ?_)
  have gL513_0 : cv_get L513 0 = some (cv_r 53) := kL513 0 _ (by decide) (fun q => absurd q (by decide)) rfl
  have gL513_1 : cv_get L513 1 = some (cv_r b) := kL513 1 _ (by decide) (fun _ => rfl) rfl
  have p7 : cw_at h511 53 7 = some (cv_r b) := ((wh511.2.1 53 7 (.inr (by decide))).trans ((wh509.2.1 53 7 (.inr (by decide))).trans ((wh507.2.1 53 7 (.inr (by decide))).trans ((wh505.2.1 53 7 (.inr (by decide))).trans ((wh503.2.1 53 7 (.inr (by decide))).trans wh501.1)))))
  have hA2 : ∀ i, ri_at h511 1 i = ri_at h0 1 i := fun i => ri_frr Fh511 (k := 1) (d := 13) rfl rfl (by decide +kernel)
  have hB2 : ∀ i, ri_at h511 52 i = ri_at h0 52 i := fun i => ri_frr Fh511 (k := 52) (d := 43) rfl rfl (by decide +kernel)
  exact ri_lpD (h0 := h511) (fun i => by rw [ht, ← hA2]) (fun i hi => by rw [hB2]; exact hwd i hi) hn9 hb4 hk2 p7 (hP1 _ Fh511) (fun x h' c1 c2 c3 c4 c5 c6 => hQ x h' c1 (cw_Fr_tr Fh511 (cw_Fr_mono (by decide +kernel) c2)) c3 c4 c5 c6) 901 0 L513 x512 [] kn 1 1 p cl 0 h511 (by omega) Th511 cw_Fr_refl Sh511 ⟨trivial, fun i hi => absurd hi (Nat.not_lt_zero i), by show _ = (0 : Int); omega, by show _ = (0 : Int); omega, by omega, by omega, by show _ + (0 : Int) + 0 = _; omega, by omega, by omega, by omega, by show (0 : Int) ≤ 8; decide⟩ (by have := hS.1; omega) hE rfl (by omega) (zNm_eq hcl (fun i => ((ri_ne wh511 (.inl (cw_kne (k := (b + 2)) (d := 29) (k' := 53) (d' := 0) hk2 rfl (by decide)))).trans ((ri_ne wh509 (.inl (cw_kne (k := (b + 2)) (d := 29) (k' := 53) (d' := 0) hk2 rfl (by decide)))).trans ((ri_ne wh507 (.inl (cw_kne (k := (b + 2)) (d := 29) (k' := 53) (d' := 0) hk2 rfl (by decide)))).trans ((ri_ne wh505 (.inl (cw_kne (k := (b + 2)) (d := 29) (k' := 53) (d' := 0) hk2 rfl (by decide)))).trans ((ri_ne wh503 (.inl (cw_kne (k := (b + 2)) (d := 29) (k' := 53) (d' := 0) hk2 rfl (by decide)))).trans (ri_ne wh501 (.inl (cw_kne (k := (b + 2)) (d := 29) (k' := 53) (d' := 0) hk2 rfl (by decide))))))))))) (by omega) (by omega) (by decide) gL513_0 gL513_2
end TZ
