section
/-! ===== what lines tell, the class: a law ===== -/
section TZ
variable {G : Int} {X : cv_X} {Q : cv_O → Prop} {t : Nat → Int}
theorem ct_intoJ {h0 : cv_H} {n p : Nat} (ht : ∀ i, t i = ri_at h0 1 i % 256) (hwd : ∀ i, i < 34 → ri_at h0 52 i = tz_wc.getD i 0) (hn9 : n ≤ 900) (hT : cw_T G h0) {b : Nat} (hb4 : cw_sh[b]? = some 4) (hk2 : cw_sh[b + 2]? = some 29) (hp1 : cw_at h0 b 1 = some (cv_r (b + 2))) {kn : Int} {cl : List Int} (hS : zCs t n (.inr p) h0) (hco : ri_at h0 b 2 = kn) (hkn : ri_at h0 b 3 = kn) (hk0 : 0 ≤ kn) (hk64 : kn ≤ 64) (hcc : ri_at h0 b 2 = cl.length) (hcl : zNm h0 (b + 2) 0 cl) {k0 : Int} {q0 : Nat} (hE : zfc t n 901 [] kn 1 1 p = .inr (k0, q0)) (hQ : ∀ (x : Int32) h', cw_T G h' → cw_Fr cw_Ds cw_sh kk_X0_readInto.2.2.2.2.2.1 h0 h' → x.toInt = 0 → zCs t n (.inr q0) h' → ri_at h' b 3 = k0 → ri_at h' b 2 = (zfD t n 901 [] kn 1 1 p cl 0).1.length → zNm h' (b + 2) 0 (zfD t n 901 [] kn 1 1 p cl 0).1 → ri_at h' 53 4 = (((zfD t n 901 [] kn 1 1 p cl 0).2 : Nat) : Int) → Q (some (cv_i x), h')) : cw_X X 1 Q 0 (cv_ent 0 [cv_r 53, cv_r b]) [] h0 := by
  have a : cw_X X 1 (fun o => ∃ (x : Int32) (hb : cv_H), o = (some (cv_i x), hb) ∧ cw_T G hb ∧ cw_Fr cw_Ds cw_sh kk_X0_readInto.2.2.2.2.2.1 h0 hb ∧ x.toInt = 0 ∧ ri_at hb b 3 = k0) 0 (cv_ent 0 [cv_r 53, cv_r b]) [] h0 :=
    ct_readInto ht hwd hn9 hT hb4 hS hco hkn hk0 hk64 (fun x hb b1 b2 b3 => ⟨x, hb, rfl, b1, b2, by
      rcases b3 with ⟨k, q, e1, e2, e3, e4, e5, e6⟩ | ⟨c, q, e1, -⟩
      · rw [hE] at e1; cases e1; exact ⟨e2, e5⟩
      · rw [hE] at e1; cases e1⟩)
  have b9 : cw_X X 1 (fun o => ∃ (x : Int32) (hb : cv_H), o = (some (cv_i x), hb) ∧ zCs t n (.inr q0) hb ∧ ri_at hb b 2 = (zfD t n 901 [] kn 1 1 p cl 0).1.length ∧ zNm hb (b + 2) 0 (zfD t n 901 [] kn 1 1 p cl 0).1 ∧ ri_at hb 53 4 = (((zfD t n 901 [] kn 1 1 p cl 0).2 : Nat) : Int)) 0 (cv_ent 0 [cv_r 53, cv_r b]) [] h0 :=
    ct_readIntoD ht hwd hn9 hT hb4 hk2 hp1 hS hco hkn hk64 hcc hcl hE (fun x hb b1 b2 b3 b4 b5 b6 => ⟨x, hb, rfl, b3, b4, b5, b6⟩)
  refine cw_X_mono (cw_X_and a b9) ?_
  rintro o ⟨⟨x, hb, rfl, a1, a2, a3, a4⟩, x2, hb2, e, c1, c2, c3, c4⟩
  cases e
  exact hQ x hb a1 a2 a3 c1 a4 c2 c3 c4
set_option maxHeartbeats 8000000 in
theorem ct_lawD {h0 : cv_H} {n p : Nat} (ht : ∀ i, t i = ri_at h0 1 i % 256) (hwd : ∀ i, i < 34 → ri_at h0 52 i = tz_wc.getD i 0) (hn9 : n ≤ 900) (hT : cw_T G h0) {b : Nat} (hb : b = 2 ∨ b = 26) (hpl : zPL b h0) (hS : zCs t n (.inr p) h0) {kn : Int} {cl : List Int} (hco : ri_at h0 b 2 = kn) (hkn : ri_at h0 b 3 = kn) (hk0 : 0 ≤ kn) (hk64 : kn ≤ 64) (hcc : ri_at h0 b 2 = cl.length) (hcl : zNm h0 (b + 2) 0 cl) (E1 : zk t n (zx t n p) = 1 ∧ 5 ≤ zw t n (zx t n p) ∧ zw t n (zx t n p) ≤ 8) {j : Nat} (hj : (j : Int) = zw t n (zx t n p) - 5) (hnt : ri_at h0 (b + 4) j ≤ ri_at h0 (b + 3) j) {k0 : Int} {q0 : Nat} (E2 : zfc t n 901 [] kn 1 1 (zx t n (zx t n p)) = .inr (k0, q0))
    (hQ : ∀ h', cw_T G h' → cw_Fr cw_Ds cw_sh kk_X5_readLaw.2.2.2.2.2.1 h0 h' → zCs t n (.inr q0) h' → ri_at h' b 2 = (zfD t n 901 [] kn 1 1 (zx t n (zx t n p)) cl 0).1.length → zNm h' (b + 2) 0 (zfD t n 901 [] kn 1 1 (zx t n (zx t n p)) cl 0).1 → (ri_at h' (b + 3) j = cl.length ∧ ri_at h' (b + 4) j = (zfD t n 901 [] kn 1 1 (zx t n (zx t n p)) cl 0).1.length ∧ ri_at h' (b + 5) j = (((zfD t n 901 [] kn 1 1 (zx t n (zx t n p)) cl 0).2 : Nat) : Int)) → (∀ i, i ≠ j → ri_at h' (b + 3) i = ri_at h0 (b + 3) i ∧ ri_at h' (b + 4) i = ri_at h0 (b + 4) i ∧ ri_at h' (b + 5) i = ri_at h0 (b + 5) i) → Q (none, h')) : cw_X X 66 Q 0 (cv_ent 0 [cv_r 50]) [] h0 := by
  have Fh0 : cw_Fr cw_Ds cw_sh kk_X5_readLaw.2.2.2.2.2.1 h0 h0 := cw_Fr_refl
  have hA : ∀ h, cw_Fr cw_Ds cw_sh kk_X5_readLaw.2.2.2.2.2.1 h0 h → ∀ i, ri_at h 1 i = ri_at h0 1 i := fun h F i => ri_frr F (k := 1) (d := 13) rfl rfl (by decide +kernel)
  have hB : ∀ h, cw_Fr cw_Ds cw_sh kk_X5_readLaw.2.2.2.2.2.1 h0 h → ∀ i, ri_at h 52 i = ri_at h0 52 i := fun h F i => ri_frr F (k := 52) (d := 43) rfl rfl (by decide +kernel)
  have hPL : ∀ h, cw_Fr cw_Ds cw_sh kk_X5_readLaw.2.2.2.2.2.1 h0 h → zPL b h := fun h F => zPL_fr hb F (by decide +kernel) hpl
  have hb4 : cw_sh[b]? = some 4 := by rcases hb with rfl | rfl <;> rfl
  have hkb1 : cw_sh[b + 1]? = some 28 := by rcases hb with rfl | rfl <;> rfl
  have hkb2 : cw_sh[b + 2]? = some 29 := by rcases hb with rfl | rfl <;> rfl
  have hkb3 : cw_sh[b + 3]? = some 30 := by rcases hb with rfl | rfl <;> rfl
  have hkb4 : cw_sh[b + 4]? = some 31 := by rcases hb with rfl | rfl <;> rfl
  have hkb5 : cw_sh[b + 5]? = some 32 := by rcases hb with rfl | rfl <;> rfl
  have hkb6 : cw_sh[b + 6]? = some 33 := by rcases hb with rfl | rfl <;> rfl
  have hkb7 : cw_sh[b + 7]? = some 34 := by rcases hb with rfl | rfl <;> rfl
  have hkb8 : cw_sh[b + 8]? = some 35 := by rcases hb with rfl | rfl <;> rfl
  have hkb9 : cw_sh[b + 9]? = some 36 := by rcases hb with rfl | rfl <;> rfl
  have hkb10 : cw_sh[b + 10]? = some 37 := by rcases hb with rfl | rfl <;> rfl
  have hkb11 : cw_sh[b + 11]? = some 38 := by rcases hb with rfl | rfl <;> rfl
  have hkb12 : cw_sh[b + 12]? = some 39 := by rcases hb with rfl | rfl <;> rfl
  have hkb13 : cw_sh[b + 13]? = some 40 := by rcases hb with rfl | rfl <;> rfl
  have hkb14 : cw_sh[b + 14]? = some 41 := by rcases hb with rfl | rfl <;> rfl
  have hkb15 : cw_sh[b + 15]? = some 42 := by rcases hb with rfl | rfl <;> rfl
  refine ex_al oq_X5_readLaw_0 rfl ?_
  refine ex_gf oq_X5_readLaw_1 hT (k := 50) (d := 5) rfl rfl (ri_ref (k := 50) (k' := 51) (d := 5) (f := 0) hT rfl rfl rfl (by decide) (ri_uniq (by decide +kernel))) ?_
  refine ex_cv oq_X5_readLaw_4 (by decide) hT (k := 51) (d := 6) (as := []) (stk := []) rfl rfl rfl rfl rfl rfl ⟨rfl, rfl⟩ (R := fun o => ∃ hb : cv_H, o = (none, hb) ∧ cw_T G hb ∧ cw_Fr cw_Ds cw_sh kk_X6_step.2.2.2.2.2.1 h0 hb ∧ zCs t n (.inr (zx t n p)) hb) (ct_stepC (t := t) (n := n) (p := p) (fun i => by rw [ht, ← hA _ Fh0]) (fun i hi => by rw [hB _ Fh0]; exact hwd i hi) hn9 hT hS (fun hb b1 b2 b3 => ⟨hb, rfl, b1, b2, b3⟩)) (fun o ho => ?_)
  obtain ⟨h101, rfl, Th101, Ch101, Sh101⟩ := ho
  show cw_X _ _ _ _ _ [] h101
  have Fh101 : cw_Fr cw_Ds cw_sh kk_X5_readLaw.2.2.2.2.2.1 h0 h101 := cw_Fr_tr Fh0 (cw_Fr_mono (by decide +kernel) Ch101)
  have eh101_b_2 : ri_at h101 b 2 = kn := (ri_frf Ch101 (k := b) (d := 4) hb4 rfl (by decide +kernel)).trans hco
  have eh101_b_3 : ri_at h101 b 3 = kn := (ri_frf Ch101 (k := b) (d := 4) hb4 rfl (by decide +kernel)).trans hkn
  have eh101_53_4 : ri_at h101 53 4 = ri_at h0 53 4 := ri_frf Ch101 (k := 53) (d := 0) rfl rfl (by decide +kernel)
  obtain ⟨pnh101, yah101, ybh101, ych101, ydh101, yfh101⟩ := zCs_at Sh101
  obtain ⟨kch101, ykh101⟩ : ∃ k, ri_at h101 51 4 = k := ⟨_, rfl⟩
  obtain ⟨vch101, yvh101⟩ : ∃ k, ri_at h101 51 6 = k := ⟨_, rfl⟩
  rw [ykh101, yvh101] at ydh101
  replace ydh101 := zhd_i ydh101
  have zlh101 := zx_le (t := t) (n := n) (p := (zx t n p)) (by omega)
  refine ex_al oq_X5_readLaw_7 rfl ?_
  refine ex_gf oq_X5_readLaw_8 Th101 (k := 50) (d := 5) rfl rfl (ri_ref (k := 50) (k' := 51) (d := 5) (f := 0) Th101 rfl rfl rfl (by decide) (ri_uniq (by decide +kernel))) ?_
  refine ex_ic oq_X5_readLaw_11 (m := 5) (by decide) (fun x102 hx102 => ?_)
  refine ex_bi oq_X5_readLaw_12 (m := 8) (by decide) (fun x103 hx103 => ?_)
  refine ex_cv oq_X5_readLaw_14 (by decide) Th101 (k := 51) (d := 6) (as := [cv_i x102, cv_i x103]) (stk := []) rfl rfl rfl rfl rfl rfl ⟨rfl, rfl⟩ (R := fun o => ∃ x : Int32, o = (some (cv_i x), h101) ∧ (x.toInt = 1 ∧ (kch101 = 2 ∧ x102.toInt ≤ vch101 ∧ vch101 ≤ x103.toInt) ∨ x.toInt = 0 ∧ ¬ (kch101 = 2 ∧ x102.toInt ≤ vch101 ∧ vch101 ≤ x103.toInt))) (ct_isWordFrom Th101 x102 x103 ykh101 yvh101 (fun x q => ⟨x, rfl, q⟩)) (fun o ho => ?_)
  obtain ⟨x104, rfl, dx104⟩ := ho
  show cw_X _ _ _ _ _ [cv_i x104] h101
  rw [hx102] at dx104
  rw [hx103] at dx104
  have rl105 := rl_pw (show tz_rel _ _ _ _ from ydh101)
  refine ex_if0 oq_X5_readLaw_17 (t := 27) rfl rfl (fun (c106 : ¬ x104.toInt = 0) => ?_) (fun (c106 : ¬ (¬ x104.toInt = 0)) => ?_)
  · refine ex_al oq_X5_readLaw_27 rfl ?_
    refine ex_gf oq_X5_readLaw_28 Th101 (k := 50) (d := 5) rfl rfl (ri_ref (k := 50) (k' := 51) (d := 5) (f := 0) Th101 rfl rfl rfl (by decide) (ri_uniq (by decide +kernel))) ?_
    obtain ⟨x107, ax107, rx107, lx107, ux107⟩ := ri_fld (k := 51) (d := 6) (f := 6) Th101 rfl rfl rfl
    try dsimp only at lx107 ux107
    refine ex_gf oq_X5_readLaw_31 Th101 (k := 51) (d := 6) rfl rfl ax107 ?_
    clear lx107 ux107
    have rx107 := (rx107.symm.trans yvh101 : x107.toInt = vch101)
    refine ex_ic oq_X5_readLaw_34 (m := 5) (by decide) (fun x108 hx108 => ?_)
    refine ex_sub oq_X5_readLaw_35 (by omega) (fun x109 hx109 => ?_)
    refine ex_isA oq_X5_readLaw_36 (fun L110 gL110_1 kL110 => ?_)
    have gL110_0 : cv_get L110 0 = some (cv_r 50) := kL110 0 _ (by decide) (fun _ => rfl) rfl
    refine ex_il oq_X5_readLaw_37 gL110_1 ?_
    refine ex_if0 oq_X5_readLaw_38 (t := 57) rfl rfl (fun (c111 : x109.toInt < 0) => ?_) (fun (c111 : ¬ (x109.toInt < 0)) => ?_)
    · exfalso; omega
    · refine ex_il oq_X5_readLaw_41 gL110_1 ?_
      refine ex_ic oq_X5_readLaw_42 (m := 4) (by decide) (fun x112 hx112 => ?_)
      refine ex_if oq_X5_readLaw_43 (t := 57) rfl rfl (fun (c113 : x112.toInt ≤ x109.toInt) => ?_) (fun (c113 : ¬ (x112.toInt ≤ x109.toInt)) => ?_)
      · exfalso; omega
      · refine ex_al oq_X5_readLaw_46 gL110_0 ?_
        refine ex_gf oq_X5_readLaw_47 Th101 (k := 50) (d := 5) rfl rfl ((hPL _ Fh101).1) ?_
        refine ex_il oq_X5_readLaw_50 gL110_1 ?_
        refine ex_cv oq_X5_readLaw_51 (by decide) Th101 (k := b) (d := 4) (as := [cv_i x109]) (stk := []) hb4 rfl rfl rfl rfl rfl ⟨rfl, rfl⟩ (R := fun o => ∃ x : Int32, o = (some (cv_i x), h101) ∧ (x.toInt = 1 ∧ ri_at h101 (b + 3) j < ri_at h101 (b + 4) j ∨ x.toInt = 0 ∧ ri_at h101 (b + 4) j ≤ ri_at h101 (b + 3) j)) (ct_isLaw hb (hPL _ Fh101) Th101 (a := x109) (j := j) (by omega) (by omega) (fun x q => ⟨x, rfl, q⟩)) (fun o ho => ?_)
        obtain ⟨x114, rfl, dx114⟩ := ho
        show cw_X _ _ _ _ _ [cv_i x114] h101
        have l3 : ri_at h101 (b + 3) j = ri_at h0 (b + 3) j := (ri_frr Ch101 (k := (b + 3)) (d := 30) hkb3 rfl (by decide +kernel))
        have l4 : ri_at h101 (b + 4) j = ri_at h0 (b + 4) j := (ri_frr Ch101 (k := (b + 4)) (d := 31) hkb4 rfl (by decide +kernel))
        refine ex_if0 oq_X5_readLaw_54 (t := 64) rfl rfl (fun (c115 : x114.toInt = 0) => ?_) (fun (c115 : ¬ (x114.toInt = 0)) => ?_)
        · refine ex_al oq_X5_readLaw_64 gL110_0 ?_
          refine ex_gf oq_X5_readLaw_65 Th101 (k := 50) (d := 5) rfl rfl (ri_ref (k := 50) (k' := 51) (d := 5) (f := 0) Th101 rfl rfl rfl (by decide) (ri_uniq (by decide +kernel))) ?_
          refine ex_cv oq_X5_readLaw_68 (by decide) Th101 (k := 51) (d := 6) (as := []) (stk := []) rfl rfl rfl rfl rfl rfl ⟨rfl, rfl⟩ (R := fun o => ∃ hb : cv_H, o = (none, hb) ∧ cw_T G hb ∧ cw_Fr cw_Ds cw_sh kk_X6_step.2.2.2.2.2.1 h101 hb ∧ zCs t n (.inr (zx t n (zx t n p))) hb) (ct_stepC (t := t) (n := n) (p := (zx t n p)) (fun i => by rw [ht, ← hA _ Fh101]) (fun i hi => by rw [hB _ Fh101]; exact hwd i hi) hn9 Th101 Sh101 (fun hb b1 b2 b3 => ⟨hb, rfl, b1, b2, b3⟩)) (fun o ho => ?_)
          obtain ⟨h116, rfl, Th116, Ch116, Sh116⟩ := ho
          show cw_X _ _ _ _ _ [] h116
          have Fh116 : cw_Fr cw_Ds cw_sh kk_X5_readLaw.2.2.2.2.2.1 h0 h116 := cw_Fr_tr Fh101 (cw_Fr_mono (by decide +kernel) Ch116)
          have eh116_b_2 : ri_at h116 b 2 = kn := (ri_frf Ch116 (k := b) (d := 4) hb4 rfl (by decide +kernel)).trans eh101_b_2
          clear eh101_b_2
          have eh116_b_3 : ri_at h116 b 3 = kn := (ri_frf Ch116 (k := b) (d := 4) hb4 rfl (by decide +kernel)).trans eh101_b_3
          clear eh101_b_3
          have eh116_53_4 : ri_at h116 53 4 = ri_at h0 53 4 := (ri_frf Ch116 (k := 53) (d := 0) rfl rfl (by decide +kernel)).trans eh101_53_4
          clear eh101_53_4
          clear yah101 ybh101 ych101 ykh101 yvh101 yfh101
          obtain ⟨pnh116, yah116, ybh116, ych116, ydh116, yfh116⟩ := zCs_at Sh116
          obtain ⟨kch116, ykh116⟩ : ∃ k, ri_at h116 51 4 = k := ⟨_, rfl⟩
          obtain ⟨vch116, yvh116⟩ : ∃ k, ri_at h116 51 6 = k := ⟨_, rfl⟩
          rw [ykh116, yvh116] at ydh116
          replace ydh116 := zhd_i ydh116
          have zlh116 := zx_le (t := t) (n := n) (p := (zx t n (zx t n p))) (by omega)
          refine ex_al oq_X5_readLaw_71 gL110_0 ?_
          refine ex_gf oq_X5_readLaw_72 Th116 (k := 50) (d := 5) rfl rfl ((hPL _ Fh116).1) ?_
          obtain ⟨x117, ax117, rx117, lx117, ux117⟩ := ri_fld (k := b) (d := 4) (f := 2) Th116 hb4 rfl rfl
          try dsimp only at lx117 ux117
          refine ex_gf oq_X5_readLaw_75 Th116 (k := b) (d := 4) hb4 rfl ax117 ?_
          clear lx117 ux117
          have rx117 := (rx117.symm.trans eh116_b_2 : x117.toInt = kn)
          refine ex_isA oq_X5_readLaw_78 (fun L118 gL118_2 kL118 => ?_)
          have gL118_1 : cv_get L118 1 = some (cv_i x109) := kL118 1 _ (by decide) (fun _ => rfl) gL110_1
          have gL118_0 : cv_get L118 0 = some (cv_r 50) := kL118 0 _ (by decide) (fun q => absurd q (by decide)) gL110_0
          refine ex_al oq_X5_readLaw_79 gL118_0 ?_
          refine ex_gf oq_X5_readLaw_80 Th116 (k := 50) (d := 5) rfl rfl (ri_ref (k := 50) (k' := 53) (d := 5) (f := 1) Th116 rfl rfl rfl (by decide) (ri_uniq (by decide +kernel))) ?_
          refine ex_al oq_X5_readLaw_83 gL118_0 ?_
          refine ex_gf oq_X5_readLaw_84 Th116 (k := 50) (d := 5) rfl rfl ((hPL _ Fh116).1) ?_
          refine ex_cv oq_X5_readLaw_87 (by decide) Th116 (k := 53) (d := 0) (as := [cv_r b]) (stk := []) rfl rfl rfl rfl rfl rfl ⟨rfl, rfl⟩ (R := fun o => ∃ (x : Int32) (hb : cv_H), o = (some (cv_i x), hb) ∧ cw_T G hb ∧ cw_Fr cw_Ds cw_sh kk_X0_readInto.2.2.2.2.2.1 h116 hb ∧ x.toInt = 0 ∧ zCs t n (.inr q0) hb ∧ ri_at hb b 3 = k0 ∧ ri_at hb b 2 = (zfD t n 901 [] kn 1 1 (zx t n (zx t n p)) cl 0).1.length ∧ zNm hb (b + 2) 0 (zfD t n 901 [] kn 1 1 (zx t n (zx t n p)) cl 0).1 ∧ ri_at hb 53 4 = (((zfD t n 901 [] kn 1 1 (zx t n (zx t n p)) cl 0).2 : Nat) : Int)) (ct_intoJ (t := t) (n := n) (p := (zx t n (zx t n p))) (fun i => by rw [ht, ← hA _ Fh116]) (fun i hi => by rw [hB _ Fh116]; exact hwd i hi) hn9 Th116 hb4 hkb2 (show cw_at h116 b 1 = some (cv_r (b + 2)) from (hPL _ Fh116).2.1 1 (by decide)) Sh116 eh116_b_2 eh116_b_3 hk0 hk64 (by omega) (zNm_eq hcl (fun i => ((ri_frr Ch116 (k := (b + 2)) (d := 29) hkb2 rfl (by decide +kernel)).trans (ri_frr Ch101 (k := (b + 2)) (d := 29) hkb2 rfl (by decide +kernel))))) E2 (fun x hb b1 b2 b3 b4 b5 b6 b7 b8 => ⟨x, hb, rfl, b1, b2, b3, b4, b5, b6, b7, b8⟩)) (fun o ho => ?_)
          obtain ⟨x119, h120, rfl, Th120, Ch120, x0, Sh120, y3, y2, ym, yn⟩ := ho
          show cw_X _ _ _ _ _ [cv_i x119] h120
          have Fh120 : cw_Fr cw_Ds cw_sh kk_X5_readLaw.2.2.2.2.2.1 h0 h120 := cw_Fr_tr Fh116 (cw_Fr_mono (by decide +kernel) Ch120)
          refine ex_isA oq_X5_readLaw_90 (fun L121 gL121_3 kL121 => ?_)
          have gL121_2 : cv_get L121 2 = some (cv_i x117) := kL121 2 _ (by decide) (fun _ => rfl) gL118_2
          have gL121_1 : cv_get L121 1 = some (cv_i x109) := kL121 1 _ (by decide) (fun q => absurd q (by decide)) gL118_1
          have gL121_0 : cv_get L121 0 = some (cv_r 50) := kL121 0 _ (by decide) (fun q => absurd q (by decide)) gL118_0
          refine ex_il oq_X5_readLaw_91 gL121_3 ?_
          refine ex_if0 oq_X5_readLaw_92 (t := 101) rfl rfl (fun (c122 : x119.toInt = 0) => ?_) (fun (c122 : ¬ (x119.toInt = 0)) => ?_)
          · refine ex_al oq_X5_readLaw_101 gL121_0 ?_
            refine ex_gf oq_X5_readLaw_102 Th120 (k := 50) (d := 5) rfl rfl ((hPL _ Fh120).1) ?_
            refine ex_gf oq_X5_readLaw_105 Th120 (k := b) (d := 4) hb4 rfl ((show cw_at h120 b 4 = some (cv_r (b + 3)) from (hPL _ Fh120).2.1 4 (by decide))) ?_
            refine ex_il oq_X5_readLaw_108 gL121_1 ?_
            refine ex_il oq_X5_readLaw_109 gL121_2 ?_
            refine ex_iw1 oq_X5_readLaw_110 Th120 (k := (b + 3)) (d := 30) (j := j) hkb3 rfl (by omega) (by omega) ⟨(cw_i32 _).1, (cw_i32 _).2⟩ (fun h123 Th123 wh123 => ?_)
            have Fh123 : cw_Fr cw_Ds cw_sh kk_X5_readLaw.2.2.2.2.2.1 h0 h123 := cw_Fr_tr Fh120 (cw_Fr_wrr wh123 (k := (b + 3)) (d := 30) hkb3 rfl (by decide +kernel))
            have eh123_b_2 : ri_at h123 b 2 = ((zfD t n 901 [] kn 1 1 (zx t n (zx t n p)) cl 0).1.length : Int) := (ri_ne wh123 (.inl (cw_kne (k := b) (d := 4) (k' := (b + 3)) (d' := 30) hb4 hkb3 (by decide)))).trans y2
            have eh123_b_3 : ri_at h123 b 3 = k0 := (ri_ne wh123 (.inl (cw_kne (k := b) (d := 4) (k' := (b + 3)) (d' := 30) hb4 hkb3 (by decide)))).trans y3
            have eh123_53_4 : ri_at h123 53 4 = (((zfD t n 901 [] kn 1 1 (zx t n (zx t n p)) cl 0).2 : Nat) : Int) := (ri_ne wh123 (.inl (cw_kne (k := 53) (d := 0) (k' := (b + 3)) (d' := 30) rfl hkb3 (by decide)))).trans yn
            have Sh123 := zCs_wr (d := 30) (k := (b + 3)) wh123 hkb3 Sh120 (.inl ⟨by decide, by decide⟩)
            refine ex_al oq_X5_readLaw_111 gL121_0 ?_
            refine ex_gf oq_X5_readLaw_112 Th123 (k := 50) (d := 5) rfl rfl ((hPL _ Fh123).1) ?_
            refine ex_gf oq_X5_readLaw_115 Th123 (k := b) (d := 4) hb4 rfl ((show cw_at h123 b 5 = some (cv_r (b + 4)) from (hPL _ Fh123).2.1 5 (by decide))) ?_
            refine ex_il oq_X5_readLaw_118 gL121_1 ?_
            refine ex_al oq_X5_readLaw_119 gL121_0 ?_
            refine ex_gf oq_X5_readLaw_120 Th123 (k := 50) (d := 5) rfl rfl ((hPL _ Fh123).1) ?_
            obtain ⟨x124, ax124, rx124, lx124, ux124⟩ := ri_fld (k := b) (d := 4) (f := 2) Th123 hb4 rfl rfl
            try dsimp only at lx124 ux124
            refine ex_gf oq_X5_readLaw_123 Th123 (k := b) (d := 4) hb4 rfl ax124 ?_
            clear lx124 ux124
            have rx124 := (rx124.symm.trans eh123_b_2 : x124.toInt = ((zfD t n 901 [] kn 1 1 (zx t n (zx t n p)) cl 0).1.length : Int))
            refine ex_iw1 oq_X5_readLaw_126 Th123 (k := (b + 4)) (d := 31) (j := j) hkb4 rfl (by omega) (by omega) ⟨(cw_i32 _).1, (cw_i32 _).2⟩ (fun h125 Th125 wh125 => ?_)
            have Fh125 : cw_Fr cw_Ds cw_sh kk_X5_readLaw.2.2.2.2.2.1 h0 h125 := cw_Fr_tr Fh123 (cw_Fr_wrr wh125 (k := (b + 4)) (d := 31) hkb4 rfl (by decide +kernel))
            have eh125_b_2 : ri_at h125 b 2 = ((zfD t n 901 [] kn 1 1 (zx t n (zx t n p)) cl 0).1.length : Int) := (ri_ne wh125 (.inl (cw_kne (k := b) (d := 4) (k' := (b + 4)) (d' := 31) hb4 hkb4 (by decide)))).trans eh123_b_2
            clear eh123_b_2
            have eh125_b_3 : ri_at h125 b 3 = k0 := (ri_ne wh125 (.inl (cw_kne (k := b) (d := 4) (k' := (b + 4)) (d' := 31) hb4 hkb4 (by decide)))).trans eh123_b_3
            clear eh123_b_3
            have eh125_53_4 : ri_at h125 53 4 = (((zfD t n 901 [] kn 1 1 (zx t n (zx t n p)) cl 0).2 : Nat) : Int) := (ri_ne wh125 (.inl (cw_kne (k := 53) (d := 0) (k' := (b + 4)) (d' := 31) rfl hkb4 (by decide)))).trans eh123_53_4
            clear eh123_53_4
            have Sh125 := zCs_wr (d := 31) (k := (b + 4)) wh125 hkb4 Sh123 (.inl ⟨by decide, by decide⟩)
            refine ex_al oq_X5_readLaw_127 gL121_0 ?_
            refine ex_gf oq_X5_readLaw_128 Th125 (k := 50) (d := 5) rfl rfl ((hPL _ Fh125).1) ?_
            refine ex_gf oq_X5_readLaw_131 Th125 (k := b) (d := 4) hb4 rfl ((show cw_at h125 b 6 = some (cv_r (b + 5)) from (hPL _ Fh125).2.1 6 (by decide))) ?_
            refine ex_il oq_X5_readLaw_134 gL121_1 ?_
            refine ex_al oq_X5_readLaw_135 gL121_0 ?_
            refine ex_gf oq_X5_readLaw_136 Th125 (k := 50) (d := 5) rfl rfl (ri_ref (k := 50) (k' := 53) (d := 5) (f := 1) Th125 rfl rfl rfl (by decide) (ri_uniq (by decide +kernel))) ?_
            obtain ⟨x126, ax126, rx126, lx126, ux126⟩ := ri_fld (k := 53) (d := 0) (f := 4) Th125 rfl rfl rfl
            try dsimp only at lx126 ux126
            refine ex_gf oq_X5_readLaw_139 Th125 (k := 53) (d := 0) rfl rfl ax126 ?_
            clear lx126 ux126
            have rx126 := (rx126.symm.trans eh125_53_4 : x126.toInt = (((zfD t n 901 [] kn 1 1 (zx t n (zx t n p)) cl 0).2 : Nat) : Int))
            refine ex_iw1 oq_X5_readLaw_142 Th125 (k := (b + 5)) (d := 32) (j := j) hkb5 rfl (by omega) (by omega) ⟨(cw_i32 _).1, (cw_i32 _).2⟩ (fun h127 Th127 wh127 => ?_)
            have Fh127 : cw_Fr cw_Ds cw_sh kk_X5_readLaw.2.2.2.2.2.1 h0 h127 := cw_Fr_tr Fh125 (cw_Fr_wrr wh127 (k := (b + 5)) (d := 32) hkb5 rfl (by decide +kernel))
            have eh127_b_2 : ri_at h127 b 2 = ((zfD t n 901 [] kn 1 1 (zx t n (zx t n p)) cl 0).1.length : Int) := (ri_ne wh127 (.inl (cw_kne (k := b) (d := 4) (k' := (b + 5)) (d' := 32) hb4 hkb5 (by decide)))).trans eh125_b_2
            clear eh125_b_2
            have eh127_b_3 : ri_at h127 b 3 = k0 := (ri_ne wh127 (.inl (cw_kne (k := b) (d := 4) (k' := (b + 5)) (d' := 32) hb4 hkb5 (by decide)))).trans eh125_b_3
            clear eh125_b_3
            have eh127_53_4 : ri_at h127 53 4 = (((zfD t n 901 [] kn 1 1 (zx t n (zx t n p)) cl 0).2 : Nat) : Int) := (ri_ne wh127 (.inl (cw_kne (k := 53) (d := 0) (k' := (b + 5)) (d' := 32) rfl hkb5 (by decide)))).trans eh125_53_4
            clear eh125_53_4
            have Sh127 := zCs_wr (d := 32) (k := (b + 5)) wh127 hkb5 Sh125 (.inl ⟨by decide, by decide⟩)
            exact ex_retv oq_X5_readLaw_143 rfl (hQ h127 Th127 Fh127 Sh127 eh127_b_2 (zNm_eq ym (fun i => ((ri_ne wh127 (.inl (cw_kne (k := (b + 2)) (d := 29) (k' := (b + 5)) (d' := 32) hkb2 hkb5 (by decide)))).trans ((ri_ne wh125 (.inl (cw_kne (k := (b + 2)) (d := 29) (k' := (b + 4)) (d' := 31) hkb2 hkb4 (by decide)))).trans (ri_ne wh123 (.inl (cw_kne (k := (b + 2)) (d := 29) (k' := (b + 3)) (d' := 30) hkb2 hkb3 (by decide)))))))) ⟨((((ri_ne wh127 (.inl (cw_kne (k := (b + 3)) (d := 30) (k' := (b + 5)) (d' := 32) hkb3 hkb5 (by decide)))).trans (ri_ne wh125 (.inl (cw_kne (k := (b + 3)) (d := 30) (k' := (b + 4)) (d' := 31) hkb3 hkb4 (by decide)))))).trans (ri_self wh123)).trans (by omega), (((ri_ne wh127 (.inl (cw_kne (k := (b + 4)) (d := 31) (k' := (b + 5)) (d' := 32) hkb4 hkb5 (by decide))))).trans (ri_self wh125)).trans (by omega), ((rfl).trans (ri_self wh127)).trans (by omega)⟩ (fun i hi => ⟨(((ri_ne wh127 (.inl (cw_kne (k := (b + 3)) (d := 30) (k' := (b + 5)) (d' := 32) hkb3 hkb5 (by decide)))).trans (ri_ne wh125 (.inl (cw_kne (k := (b + 3)) (d := 30) (k' := (b + 4)) (d' := 31) hkb3 hkb4 (by decide)))))).trans ((ri_ne wh123 (.inr hi)).trans (((ri_frr Ch120 (k := (b + 3)) (d := 30) hkb3 rfl (by decide +kernel)).trans ((ri_frr Ch116 (k := (b + 3)) (d := 30) hkb3 rfl (by decide +kernel)).trans (ri_frr Ch101 (k := (b + 3)) (d := 30) hkb3 rfl (by decide +kernel)))))), ((ri_ne wh127 (.inl (cw_kne (k := (b + 4)) (d := 31) (k' := (b + 5)) (d' := 32) hkb4 hkb5 (by decide))))).trans ((ri_ne wh125 (.inr hi)).trans (((ri_ne wh123 (.inl (cw_kne (k := (b + 4)) (d := 31) (k' := (b + 3)) (d' := 30) hkb4 hkb3 (by decide)))).trans ((ri_frr Ch120 (k := (b + 4)) (d := 31) hkb4 rfl (by decide +kernel)).trans ((ri_frr Ch116 (k := (b + 4)) (d := 31) hkb4 rfl (by decide +kernel)).trans (ri_frr Ch101 (k := (b + 4)) (d := 31) hkb4 rfl (by decide +kernel))))))), (rfl).trans ((ri_ne wh127 (.inr hi)).trans (((ri_ne wh125 (.inl (cw_kne (k := (b + 5)) (d := 32) (k' := (b + 4)) (d' := 31) hkb5 hkb4 (by decide)))).trans ((ri_ne wh123 (.inl (cw_kne (k := (b + 5)) (d := 32) (k' := (b + 3)) (d' := 30) hkb5 hkb3 (by decide)))).trans ((ri_frr Ch120 (k := (b + 5)) (d := 32) hkb5 rfl (by decide +kernel)).trans ((ri_frr Ch116 (k := (b + 5)) (d := 32) hkb5 rfl (by decide +kernel)).trans (ri_frr Ch101 (k := (b + 5)) (d := 32) hkb5 rfl (by decide +kernel))))))))⟩))
          · exfalso; omega
        · exfalso; omega
  · exfalso; omega
end TZ
end
section
/-! ===== a line on the ground: its numbers, the class ===== -/
theorem zpre_st {acc : List Int} {z : (Int × Nat) ⊕ (List Int × Nat)} : zst (zpre acc z) = zst z := by
  rcases z with e | ⟨v, q⟩ <;> rfl
theorem zns_V {t : Nat → Int} {n k : Nat} {lo hi : Int} {acc : List Int} {S : (Int × Nat) ⊕ Nat} : zpre acc (zbd S (zns t n lo hi (k + 1))) = zpre (acc ++ [zvl (zbd S (zn t n lo hi))]) (zbd (zst (zbd S (zn t n lo hi))) (zns t n lo hi k)) := by
  rcases S with e | q
  · rfl
  · show zpre acc (zns t n lo hi (k + 1) q) = zpre (acc ++ [zvl (zn t n lo hi q)]) (zbd (zst (zn t n lo hi q)) (zns t n lo hi k))
    cases e : zn t n lo hi q with
    | inl x => rw [zns_e e]; rfl
    | inr x =>
      obtain ⟨v, q'⟩ := x
      rw [zns_s e]
      rfl
theorem row_app {h h' h'' : cv_H} {R : Nat} {acc : List Int} {x : Int32} {v : Int} (w : cw_Wr h h' R acc.length (cv_i x)) (hl : ∀ j, j < acc.length → ri_at h R j = acc.getD j 0) (e : ∀ i, ri_at h'' R i = ri_at h' R i) (hx : x.toInt = v) : ∀ j, j < (acc ++ [v]).length → ri_at h'' R j = (acc ++ [v]).getD j 0 := by
  intro j hj
  have := zNm_app (h := h'') (R := R) (c := 0) (l := acc) (v := v) (fun k hk => by rw [Nat.zero_add, e, ri_ne w (.inr (by omega))]; exact hl k hk) (by rw [Nat.zero_add, e, ri_self w]; exact hx) j hj
  rw [Nat.zero_add] at this
  exact this
section TZ
variable {G : Int} {X : cv_X} {Q : cv_O → Prop} {t : Nat → Int}
set_option maxHeartbeats 8000000 in
theorem ct_groundV {h0 : cv_H} {n : Nat} (ht : ∀ i, t i = ri_at h0 1 i % 256) (hwd : ∀ i, i < 34 → ri_at h0 52 i = tz_wc.getD i 0) (hn9 : n ≤ 900)  {b : Nat} (hb : b = 2 ∨ b = 26) (hpl : zPL b h0) {Z : (Int × Nat) ⊕ (List Int × Nat)} (hQ : ∀ h', cw_T G h' → cw_Fr cw_Ds cw_sh kk_X5_readGround.2.2.2.2.2.1 h0 h' → zCs t n (zst Z) h' → ri_at h' 50 3 = 1 → (∀ vs q, Z = .inr (vs, q) → ∀ j, j < 12 → ri_at h' (b + 1) j = vs.getD j 0) → Q (none, h')) :
    ∀ (u i : Nat) (L : cv_L) (I : Int32) (S : (Int × Nat) ⊕ Nat) (h : cv_H) (acc : List Int), i + u = 12 → cw_T G h → cw_Fr cw_Ds cw_sh kk_X5_readGround.2.2.2.2.2.1 h0 h → zCs t n S h → zpre acc (zbd S (zns t n 1 99 u)) = Z → acc.length = i → (∀ j, j < acc.length → ri_at h (b + 1) j = acc.getD j 0) → ri_at h 50 3 = 1 → I.toInt = i → cv_get L 0 = some (cv_r 50) → cv_get L 1 = some (cv_i I) → cw_X X 65 Q 28 L [] h := by
  have Fh0 : cw_Fr cw_Ds cw_sh kk_X5_readGround.2.2.2.2.2.1 h0 h0 := cw_Fr_refl
  have hA : ∀ h, cw_Fr cw_Ds cw_sh kk_X5_readGround.2.2.2.2.2.1 h0 h → ∀ i, ri_at h 1 i = ri_at h0 1 i := fun h F i => ri_frr F (k := 1) (d := 13) rfl rfl (by decide +kernel)
  have hB : ∀ h, cw_Fr cw_Ds cw_sh kk_X5_readGround.2.2.2.2.2.1 h0 h → ∀ i, ri_at h 52 i = ri_at h0 52 i := fun h F i => ri_frr F (k := 52) (d := 43) rfl rfl (by decide +kernel)
  have hPL : ∀ h, cw_Fr cw_Ds cw_sh kk_X5_readGround.2.2.2.2.2.1 h0 h → zPL b h := fun h F => zPL_fr hb F (by decide +kernel) hpl
  have hb4 : cw_sh[b]? = some 4 := by rcases hb with rfl | rfl <;> rfl
  have hkb1 : cw_sh[b + 1]? = some 28 := by rcases hb with rfl | rfl <;> rfl
  have hkb2 : cw_sh[b + 2]? = some 29 := by rcases hb with rfl | rfl <;> rfl
  have hkb3 : cw_sh[b + 3]? = some 30 := by rcases hb with rfl | rfl <;> rfl
  have hkb4 : cw_sh[b + 4]? = some 31 := by rcases hb with rfl | rfl <;> rfl
  have hkb5 : cw_sh[b + 5]? = some 32 := by rcases hb with rfl | rfl <;> rfl
  have hkb6 : cw_sh[b + 6]? = some 33 := by rcases hb with rfl | rfl <;> rfl
  have hkb7 : cw_sh[b + 7]? = some 34 := by rcases hb with rfl | rfl <;> rfl
  have hkb8 : cw_sh[b + 8]? = some 35 := by rcases hb with rfl | rfl <;> rfl
  have hkb9 : cw_sh[b + 9]? = some 36 := by rcases hb with rfl | rfl <;> rfl
  have hkb10 : cw_sh[b + 10]? = some 37 := by rcases hb with rfl | rfl <;> rfl
  have hkb11 : cw_sh[b + 11]? = some 38 := by rcases hb with rfl | rfl <;> rfl
  have hkb12 : cw_sh[b + 12]? = some 39 := by rcases hb with rfl | rfl <;> rfl
  have hkb13 : cw_sh[b + 13]? = some 40 := by rcases hb with rfl | rfl <;> rfl
  have hkb14 : cw_sh[b + 14]? = some 41 := by rcases hb with rfl | rfl <;> rfl
  have hkb15 : cw_sh[b + 15]? = some 42 := by rcases hb with rfl | rfl <;> rfl
  intro u
  induction u with
  | zero =>
    intro i L I S h acc hiu hT Fh hS hE hac hr h3 hI g0 g1
    refine ex_il oq_X5_readGround_28 g1 ?_
    refine ex_bi oq_X5_readGround_29 (m := 12) (by decide) (fun x101 hx101 => ?_)
    refine ex_if oq_X5_readGround_31 (t := 56) rfl rfl (fun (c102 : x101.toInt ≤ I.toInt) => ?_) (fun (c102 : ¬ (x101.toInt ≤ I.toInt)) => ?_)
    · exact ex_retv oq_X5_readGround_56 rfl (hQ h hT Fh (by rw [← hE, zpre_st, znS_0]; exact hS) h3 (fun vs q e j hj => by
        have e2 := hE.trans e
        rcases S with e3 | p3
        · cases e2
        · rw [show zbd (.inr p3) (zns t n 1 99 0) = zns t n 1 99 0 p3 from rfl, zns_0] at e2
          cases e2
          exact hr j (by omega)))
    · exfalso; omega
  | succ u ih =>
    intro i L I S h acc hiu hT Fh hS hE hac hr h3 hI g0 g1
    refine ex_il oq_X5_readGround_28 g1 ?_
    refine ex_bi oq_X5_readGround_29 (m := 12) (by decide) (fun x101 hx101 => ?_)
    refine ex_if oq_X5_readGround_31 (t := 56) rfl rfl (fun (c102 : x101.toInt ≤ I.toInt) => ?_) (fun (c102 : ¬ (x101.toInt ≤ I.toInt)) => ?_)
    · exfalso; omega
    · refine ex_al oq_X5_readGround_34 g0 ?_
      refine ex_gf oq_X5_readGround_35 hT (k := 50) (d := 5) rfl rfl ((hPL _ Fh).1) ?_
      refine ex_gf oq_X5_readGround_38 hT (k := b) (d := 4) hb4 rfl ((show cw_at h b 0 = some (cv_r (b + 1)) from (hPL _ Fh).2.1 0 (by decide))) ?_
      refine ex_il oq_X5_readGround_41 g1 ?_
      refine ex_al oq_X5_readGround_42 g0 ?_
      refine ex_ic oq_X5_readGround_43 (m := 1) (by decide) (fun x103 hx103 => ?_)
      refine ex_bi oq_X5_readGround_44 (m := 99) (by decide) (fun x104 hx104 => ?_)
      refine ex_cv oq_X5_readGround_46 (by decide) hT (k := 50) (d := 5) (as := [cv_i x103, cv_i x104]) (stk := [cv_i I, cv_r (b + 1)]) rfl rfl rfl rfl rfl rfl ⟨rfl, rfl⟩ (R := fun o => ∃ (x : Int32) (hb : cv_H), o = (some (cv_i x), hb) ∧ cw_T G hb ∧ cw_Fr cw_Ds cw_sh kk_X5_readNumber_1.2.2.2.2.2.1 h hb ∧ zCr t n hb x (zbd S (zn t n x103.toInt x104.toInt))) (ct_readNumber (t := t) (n := n) (fun i => by rw [ht, ← hA _ Fh]) (fun i hi => by rw [hB _ Fh]; exact hwd i hi) hn9 hT hS x103 x104 (by omega) (by omega) (fun x hb b1 b2 b3 => ⟨x, hb, rfl, b1, b2, b3⟩)) (fun o ho => ?_)
      obtain ⟨x105, h106, rfl, Th106, Ch106, dx105⟩ := ho
      show cw_X _ _ _ _ _ [cv_i x105, cv_i I, cv_r (b + 1)] h106
      obtain ⟨z1, y1, wx105, Sh106⟩ : ∃ z, zbd S (zn t n x103.toInt x104.toInt) = z ∧ x105.toInt = zvl z ∧ zCs t n (zst z) h106 := ⟨_, rfl, zCr_i dx105⟩
      clear dx105
      have Fh106 : cw_Fr cw_Ds cw_sh kk_X5_readGround.2.2.2.2.2.1 h0 h106 := cw_Fr_tr Fh (cw_Fr_mono (by decide +kernel) Ch106)
      have eh106_50_3 : ri_at h106 50 3 = 1 := (ri_frf Ch106 (k := 50) (d := 5) rfl rfl (by decide +kernel)).trans h3
      have n1 := zvl_n y1
      rw [hx103] at y1 n1
      rw [hx104] at y1 n1
      refine ex_iw1 oq_X5_readGround_49 Th106 (k := (b + 1)) (d := 28) (j := acc.length) hkb1 rfl (by omega) (by omega) ⟨(cw_i32 _).1, (cw_i32 _).2⟩ (fun h107 Th107 wh107 => ?_)
      have Fh107 : cw_Fr cw_Ds cw_sh kk_X5_readGround.2.2.2.2.2.1 h0 h107 := cw_Fr_tr Fh106 (cw_Fr_wrr wh107 (k := (b + 1)) (d := 28) hkb1 rfl (by decide +kernel))
      have eh107_50_3 : ri_at h107 50 3 = 1 := (ri_ne wh107 (.inl (cw_kne (k := 50) (d := 5) (k' := (b + 1)) (d' := 28) rfl hkb1 (by decide)))).trans eh106_50_3
      clear eh106_50_3
      have Sh107 := zCs_wr (d := 28) (k := (b + 1)) wh107 hkb1 Sh106 (.inl ⟨by decide, by decide⟩)
      refine ex_incA oq_X5_readGround_50 (v := I) (m := 1) g1 (by decide) (by omega) (fun L109 x108 hx108 gL109_1 kL109 => ?_)
      have gL109_0 : cv_get L109 0 = some (cv_r 50) := kL109 0 _ (by decide) (fun _ => rfl) g0
      refine ex_go oq_X5_readGround_53 (t := 28) rfl rfl ?_
      exact ih (i + 1) L109 x108 (zst z1) h107 (acc ++ [zvl z1]) (by omega) Th107 Fh107 Sh107 (by rw [← hE, zns_V, y1]) (by rw [List.length_append, List.length_singleton]; omega) (row_app wh107 (fun j hj => ((ri_frr Ch106 (k := (b + 1)) (d := 28) hkb1 rfl (by decide +kernel))).trans (hr j hj)) (fun i => rfl) (by omega)) eh107_50_3 (by omega) gL109_0 gL109_1
theorem ct_readGround3 {h0 : cv_H} {n p : Nat} (ht : ∀ i, t i = ri_at h0 1 i % 256) (hwd : ∀ i, i < 34 → ri_at h0 52 i = tz_wc.getD i 0) (hn9 : n ≤ 900) (hT : cw_T G h0) {b : Nat} (hb : b = 2 ∨ b = 26) (hpl : zPL b h0) (hS : zCs t n (.inr p) h0) {gt : Int} (hg : ri_at h0 50 3 = gt) (hQ : ∀ h', cw_T G h' → cw_Fr cw_Ds cw_sh kk_X5_readGround.2.2.2.2.2.1 h0 h' → zCs t n (zst (zgl t n gt p)) h' ∧ (∀ v q, zgl t n gt p = .inr (v, q) → ri_at h' 50 3 = 1 ∧ ∀ j, j < 12 → ri_at h' (b + 1) j = v.getD j 0) → Q (none, h')) : cw_X X 65 Q 0 (cv_ent 0 [cv_r 50]) [] h0 := by
  have Fh0 : cw_Fr cw_Ds cw_sh kk_X5_readGround.2.2.2.2.2.1 h0 h0 := cw_Fr_refl
  have hA : ∀ h, cw_Fr cw_Ds cw_sh kk_X5_readGround.2.2.2.2.2.1 h0 h → ∀ i, ri_at h 1 i = ri_at h0 1 i := fun h F i => ri_frr F (k := 1) (d := 13) rfl rfl (by decide +kernel)
  have hB : ∀ h, cw_Fr cw_Ds cw_sh kk_X5_readGround.2.2.2.2.2.1 h0 h → ∀ i, ri_at h 52 i = ri_at h0 52 i := fun h F i => ri_frr F (k := 52) (d := 43) rfl rfl (by decide +kernel)
  have hPL : ∀ h, cw_Fr cw_Ds cw_sh kk_X5_readGround.2.2.2.2.2.1 h0 h → zPL b h := fun h F => zPL_fr hb F (by decide +kernel) hpl
  have hb4 : cw_sh[b]? = some 4 := by rcases hb with rfl | rfl <;> rfl
  have hkb1 : cw_sh[b + 1]? = some 28 := by rcases hb with rfl | rfl <;> rfl
  have hkb2 : cw_sh[b + 2]? = some 29 := by rcases hb with rfl | rfl <;> rfl
  have hkb3 : cw_sh[b + 3]? = some 30 := by rcases hb with rfl | rfl <;> rfl
  have hkb4 : cw_sh[b + 4]? = some 31 := by rcases hb with rfl | rfl <;> rfl
  have hkb5 : cw_sh[b + 5]? = some 32 := by rcases hb with rfl | rfl <;> rfl
  have hkb6 : cw_sh[b + 6]? = some 33 := by rcases hb with rfl | rfl <;> rfl
  have hkb7 : cw_sh[b + 7]? = some 34 := by rcases hb with rfl | rfl <;> rfl
  have hkb8 : cw_sh[b + 8]? = some 35 := by rcases hb with rfl | rfl <;> rfl
  have hkb9 : cw_sh[b + 9]? = some 36 := by rcases hb with rfl | rfl <;> rfl
  have hkb10 : cw_sh[b + 10]? = some 37 := by rcases hb with rfl | rfl <;> rfl
  have hkb11 : cw_sh[b + 11]? = some 38 := by rcases hb with rfl | rfl <;> rfl
  have hkb12 : cw_sh[b + 12]? = some 39 := by rcases hb with rfl | rfl <;> rfl
  have hkb13 : cw_sh[b + 13]? = some 40 := by rcases hb with rfl | rfl <;> rfl
  have hkb14 : cw_sh[b + 14]? = some 41 := by rcases hb with rfl | rfl <;> rfl
  have hkb15 : cw_sh[b + 15]? = some 42 := by rcases hb with rfl | rfl <;> rfl
  refine ex_al oq_X5_readGround_0 rfl ?_
  obtain ⟨pnh0, yah0, ybh0, ych0, ydh0, yfh0⟩ := zCs_at hS
  obtain ⟨kch0, ykh0⟩ : ∃ k, ri_at h0 51 4 = k := ⟨_, rfl⟩
  obtain ⟨vch0, yvh0⟩ : ∃ k, ri_at h0 51 6 = k := ⟨_, rfl⟩
  rw [ykh0, yvh0] at ydh0
  replace ydh0 := zhd_i ydh0
  have zlh0 := zx_le (t := t) (n := n) (p := p) (by omega)
  obtain ⟨x301, ax301, rx301, lx301, ux301⟩ := ri_fld (k := 50) (d := 5) (f := 3) hT rfl rfl rfl
  try dsimp only at lx301 ux301
  refine ex_gf oq_X5_readGround_1 hT (k := 50) (d := 5) rfl rfl ax301 ?_
  have rx301 := (rx301.symm.trans hg : x301.toInt = gt)
  refine ex_if0 oq_X5_readGround_4 (t := 14) rfl rfl (fun (c302 : x301.toInt = 0) => ?_) (fun (c302 : ¬ (x301.toInt = 0)) => ?_)
  · refine ex_al oq_X5_readGround_14 rfl ?_
    refine ex_ic oq_X5_readGround_15 (m := 1) (by decide) (fun x303 hx303 => ?_)
    refine ex_pfb oq_X5_readGround_16 hT (k := 50) (d := 5) rfl rfl rfl (by omega) (by omega) (fun h304 Th304 wh304 => ?_)
    have Fh304 : cw_Fr cw_Ds cw_sh kk_X5_readGround.2.2.2.2.2.1 h0 h304 := cw_Fr_tr Fh0 (cw_Fr_wrf wh304 (k := 50) (d := 5) rfl rfl (by decide +kernel))
    have eh304_50_3 : ri_at h304 50 3 = x303.toInt := ri_self wh304
    have Sh304 := zCs_wr (d := 5) (k := 50) wh304 rfl hS (.inr (by decide))
    refine ex_al oq_X5_readGround_19 rfl ?_
    refine ex_gf oq_X5_readGround_20 Th304 (k := 50) (d := 5) rfl rfl (ri_ref (k := 50) (k' := 51) (d := 5) (f := 0) Th304 rfl rfl rfl (by decide) (ri_uniq (by decide +kernel))) ?_
    refine ex_cv oq_X5_readGround_23 (by decide) Th304 (k := 51) (d := 6) (as := []) (stk := []) rfl rfl rfl rfl rfl rfl ⟨rfl, rfl⟩ (R := fun o => ∃ hb : cv_H, o = (none, hb) ∧ cw_T G hb ∧ cw_Fr cw_Ds cw_sh kk_X6_step.2.2.2.2.2.1 h304 hb ∧ zCs t n (.inr (zx t n p)) hb) (ct_stepC (t := t) (n := n) (p := p) (fun i => by rw [ht, ← hA _ Fh304]) (fun i hi => by rw [hB _ Fh304]; exact hwd i hi) hn9 Th304 Sh304 (fun hb b1 b2 b3 => ⟨hb, rfl, b1, b2, b3⟩)) (fun o ho => ?_)
    obtain ⟨h305, rfl, Th305, Ch305, Sh305⟩ := ho
    show cw_X _ _ _ _ _ [] h305
    have Fh305 : cw_Fr cw_Ds cw_sh kk_X5_readGround.2.2.2.2.2.1 h0 h305 := cw_Fr_tr Fh304 (cw_Fr_mono (by decide +kernel) Ch305)
    have eh305_50_3 : ri_at h305 50 3 = x303.toInt := (ri_frf Ch305 (k := 50) (d := 5) rfl rfl (by decide +kernel)).trans eh304_50_3
    clear eh304_50_3
    clear yah0 ybh0 ych0 ykh0 yvh0 yfh0
    obtain ⟨pnh305, yah305, ybh305, ych305, ydh305, yfh305⟩ := zCs_at Sh305
    obtain ⟨kch305, ykh305⟩ : ∃ k, ri_at h305 51 4 = k := ⟨_, rfl⟩
    obtain ⟨vch305, yvh305⟩ : ∃ k, ri_at h305 51 6 = k := ⟨_, rfl⟩
    rw [ykh305, yvh305] at ydh305
    replace ydh305 := zhd_i ydh305
    have zlh305 := zx_le (t := t) (n := n) (p := (zx t n p)) (by omega)
    refine ex_ic oq_X5_readGround_26 (m := 0) (by decide) (fun x306 hx306 => ?_)
    refine ex_isA oq_X5_readGround_27 (fun L307 gL307_1 kL307 => ?_)
    have gL307_0 : cv_get L307 0 = some (cv_r 50) := kL307 0 _ (by decide) (fun _ => rfl) rfl
    exact ct_groundV ht hwd hn9 hb hpl (Z := zns t n 1 99 12 (zx t n p)) (fun h' c1 c2 c3 c4 c5 => hQ h' c1 c2 (by unfold zgl; rw [if_pos (by omega)]; exact ⟨c3, fun v q e => ⟨c4, c5 v q e⟩⟩)) 12 0 L307 x306 (.inr (zx t n p)) h305 [] (by omega) Th305 Fh305 Sh305 zpre_nil rfl (fun j hj => absurd hj (Nat.not_lt_zero j)) (by omega) (by omega) gL307_0 gL307_1
  · replace c302 : ¬ x301.toInt = 0 := by omega
    refine ex_al oq_X5_readGround_7 rfl ?_
    refine ex_ic oq_X5_readGround_8 (m := 3) (by decide) (fun x308 hx308 => ?_)
    refine ex_cv oq_X5_readGround_9 (by decide) hT (k := 50) (d := 5) (as := [cv_i x308]) (stk := []) rfl rfl rfl rfl rfl rfl ⟨rfl, rfl⟩ (R := fun o => ∃ (x : Int32) (hb : cv_H), o = (some (cv_i x), hb) ∧ cw_T G hb ∧ cw_Fr cw_Ds cw_sh kk_X5_fail.2.2.2.2.2.1 h0 hb ∧ x.toInt = 0 ∧ zCs t n (.inl (3, za t n p)) hb) (ct_failP (t := t) (n := n) (p := p) hT hS x308 hx308 (by decide) (fun x hb b1 b2 b3 b4 => ⟨x, hb, rfl, b1, b2, b3, b4⟩)) (fun o ho => ?_)
    obtain ⟨x309, h310, rfl, Th310, Ch310, zh310, Sh310⟩ := ho
    show cw_X _ _ _ _ _ [cv_i x309] h310
    have Fh310 : cw_Fr cw_Ds cw_sh kk_X5_readGround.2.2.2.2.2.1 h0 h310 := cw_Fr_tr Fh0 (cw_Fr_mono (by decide +kernel) Ch310)
    have eh310_50_3 : ri_at h310 50 3 = gt := (ri_frf Ch310 (k := 50) (d := 5) rfl rfl (by decide +kernel)).trans hg
    refine ex_pop oq_X5_readGround_12 rfl ?_
    have fin : zst (zgl t n gt p) = (.inl (3, za t n p)) ∧ ∀ v q, zgl t n gt p = .inr (v, q) → True := by
      unfold zgl
      rw [if_neg (by omega)]
      exact ⟨rfl, fun v q h => by first | (cases h; done) | (cases h; rfl) | trivial⟩
    exact ex_retv oq_X5_readGround_13 rfl (hQ h310 Th310 Fh310 ⟨by rw [fin.1]; exact Sh310, fun v q h => (zst_no fin.1 h).elim⟩)
end TZ
end
