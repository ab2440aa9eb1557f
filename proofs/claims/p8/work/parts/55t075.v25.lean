/-! ===== a line on the ground: its numbers, the class ===== -/
theorem zpre_st {acc : List Int} {z : (Int × Nat) ⊕ (List Int × Nat)} : zst (zpre acc z) = zst z := by
  rcases z with e | ⟨v, q⟩ <;> rfl
theorem zns_V {t : Nat → Int} {n k : Nat} {lo hi : Int} {acc : List Int} {S : (Int × Nat) ⊕ Nat} : zpre acc (zbd S (zns t n lo hi (k + 1))) = zpre (acc ++ [zvl (zbd S (zn t n lo hi))]) (zbd (zst (zbd S (zn t n lo hi))) (zns t n lo hi k)) := by
  rcases S with e | q
  · rfl
  · show zpre acc (zns t n lo hi (k + 1) q) = zpre (acc ++ [zvl (zn t n lo hi q)]) (zbd (zst (zn t n lo hi q)) (zns t n lo hi k))
    cases e : zn t n lo hi q with
    | inl x => rw [zns_e e]; rfl
    | inr x =>
      obtain ⟨v, q'⟩ := x
      rw [zns_s e]
      rfl
theorem row_app {h h' h'' : cv_H} {R : Nat} {acc : List Int} {x : Int32} {v : Int} (w : cw_Wr h h' R acc.length (cv_i x)) (hl : ∀ j, j < acc.length → ri_at h R j = acc.getD j 0) (e : ∀ i, ri_at h'' R i = ri_at h' R i) (hx : x.toInt = v) : ∀ j, j < (acc ++ [v]).length → ri_at h'' R j = (acc ++ [v]).getD j 0 := by
  intro j hj
  have := zNm_app (h := h'') (R := R) (c := 0) (l := acc) (v := v) (fun k hk => by rw [Nat.zero_add, e, ri_ne w (.inr (by omega))]; exact hl k hk) (by rw [Nat.zero_add, e, ri_self w]; exact hx) j hj
  rw [Nat.zero_add] at this
  exact this
section TZ
variable {G : Int} {X : cv_X} {Q : cv_O → Prop} {t : Nat → Int}
set_option maxHeartbeats 8000000 in
theorem ct_groundV {h0 : cv_H} {n : Nat} (ht : ∀ i, t i = ri_at h0 1 i % 256) (hwd : ∀ i, i < 34 → ri_at h0 52 i = tz_wc.getD i 0) (hn9 : n ≤ 900)  {b : Nat} (hb : b = 2 ∨ b = 26) (hpl : zPL b h0) {Z : (Int × Nat) ⊕ (List Int × Nat)} (hQ : ∀ h', cw_T G h' → cw_Fr cw_Ds cw_sh kk_X5_readGround.2.2.2.2.2.1 h0 h' → zCs t n (zst Z) h' → ri_at h' 50 3 = 1 → (∀ vs q, Z = .inr (vs, q) → ∀ j, j < 12 → ri_at h' (b + 1) j = vs.getD j 0) → Q (none, h')) :
    ∀ (u i : Nat) (L : cv_L) (I : Int32) (S : (Int × Nat) ⊕ Nat) (h : cv_H) (acc : List Int), i + u = 12 → cw_T G h → cw_Fr cw_Ds cw_sh kk_X5_readGround.2.2.2.2.2.1 h0 h → zCs t n S h → zpre acc (zbd S (zns t n 1 99 u)) = Z → acc.length = i → (∀ j, j < acc.length → ri_at h (b + 1) j = acc.getD j 0) → ri_at h 50 3 = 1 → I.toInt = i → cv_get L 0 = some (cv_r 50) → cv_get L 1 = some (cv_i I) → cw_X X 65 Q 28 L [] h := by
  have Fh0 : cw_Fr cw_Ds cw_sh kk_X5_readGround.2.2.2.2.2.1 h0 h0 := cw_Fr_refl
  have hA : ∀ h, cw_Fr cw_Ds cw_sh kk_X5_readGround.2.2.2.2.2.1 h0 h → ∀ i, ri_at h 1 i = ri_at h0 1 i := fun h F i => ri_frr F (k := 1) (d := 13) rfl rfl (by decide +kernel)
  have hB : ∀ h, cw_Fr cw_Ds cw_sh kk_X5_readGround.2.2.2.2.2.1 h0 h → ∀ i, ri_at h 52 i = ri_at h0 52 i := fun h F i => ri_frr F (k := 52) (d := 43) rfl rfl (by decide +kernel)
  have hPL : ∀ h, cw_Fr cw_Ds cw_sh kk_X5_readGround.2.2.2.2.2.1 h0 h → zPL b h := fun h F => zPL_fr hb F (by decide +kernel) hpl
  have hb4 : cw_sh[b]? = some 4 := by rcases hb with rfl | rfl <;> rfl
  have hkb1 : cw_sh[b + 1]? = some 28 := by rcases hb with rfl | rfl <;> rfl
  have hkb2 : cw_sh[b + 2]? = some 29 := by rcases hb with rfl | rfl <;> rfl
  have hkb3 : cw_sh[b + 3]? = some 30 := by rcases hb with rfl | rfl <;> rfl
  have hkb4 : cw_sh[b + 4]? = some 31 := by rcases hb with rfl | rfl <;> rfl
  have hkb5 : cw_sh[b + 5]? = some 32 := by rcases hb with rfl | rfl <;> rfl
  have hkb6 : cw_sh[b + 6]? = some 33 := by rcases hb with rfl | rfl <;> rfl
  have hkb7 : cw_sh[b + 7]? = some 34 := by rcases hb with rfl | rfl <;> rfl
  have hkb8 : cw_sh[b + 8]? = some 35 := by rcases hb with rfl | rfl <;> rfl
  have hkb9 : cw_sh[b + 9]? = some 36 := by rcases hb with rfl | rfl <;> rfl
  have hkb10 : cw_sh[b + 10]? = some 37 := by rcases hb with rfl | rfl <;> rfl
  have hkb11 : cw_sh[b + 11]? = some 38 := by rcases hb with rfl | rfl <;> rfl
  have hkb12 : cw_sh[b + 12]? = some 39 := by rcases hb with rfl | rfl <;> rfl
  have hkb13 : cw_sh[b + 13]? = some 40 := by rcases hb with rfl | rfl <;> rfl
  have hkb14 : cw_sh[b + 14]? = some 41 := by rcases hb with rfl | rfl <;> rfl
  have hkb15 : cw_sh[b + 15]? = some 42 := by rcases hb with rfl | rfl <;> rfl
  intro u
  induction u with
  | zero =>
    intro i L I S h acc hiu hT Fh hS hE hac hr h3 hI g0 g1
    refine ex_il oq_X5_readGround_28 g1 ?_
    refine ex_bi oq_X5_readGround_29 (m := 12) (by decide) (fun x101 hx101 => ?_)
    refine ex_if oq_X5_readGround_31 (t := 56) rfl rfl (fun (c102 : x101.toInt ≤ I.toInt) => ?_) (fun (c102 : ¬ (x101.toInt ≤ I.toInt)) => ?_)
    · exact ex_retv oq_X5_readGround_56 rfl (hQ h hT Fh (by rw [← hE, zpre_st, znS_0]; exact hS) h3 (fun vs q e j hj => by
        have e2 := hE.trans e
        rcases S with e3 | p3
        · cases e2
        · rw [show zbd (.inr p3) (zns t n 1 99 0) = zns t n 1 99 0 p3 from rfl, zns_0] at e2
          cases e2
          exact hr j (by omega)))
    · exfalso; omega
  | succ u ih =>
    intro i L I S h acc hiu hT Fh hS hE hac hr h3 hI g0 g1
    refine ex_il oq_X5_readGround_28 g1 ?_
    refine ex_bi oq_X5_readGround_29 (m := 12) (by decide) (fun x101 hx101 => ?_)
    refine ex_if oq_X5_readGround_31 (t := 56) rfl rfl (fun (c102 : x101.toInt ≤ I.toInt) => ?_) (fun (c102 : ¬ (x101.toInt ≤ I.toInt)) => ?_)
    · exfalso; omega
    · refine ex_al oq_X5_readGround_34 g0 ?_
      refine ex_gf oq_X5_readGround_35 hT (k := 50) (d := 5) rfl rfl ((hPL _ Fh).1) ?_
      refine ex_gf oq_X5_readGround_38 hT (k := b) (d := 4) hb4 rfl ((show cw_at h b 0 = some (cv_r (b + 1)) from (hPL _ Fh).2.1 0 (by decide))) ?_
      refine ex_il oq_X5_readGround_41 g1 ?_
      refine ex_al oq_X5_readGround_42 g0 ?_
      refine ex_ic oq_X5_readGround_43 (m := 1) (by decide) (fun x103 hx103 => ?_)
      refine ex_bi oq_X5_readGround_44 (m := 99) (by decide) (fun x104 hx104 => ?_)
      refine ex_cv oq_X5_readGround_46 (by decide) hT (k := 50) (d := 5) (as := [cv_i x103, cv_i x104]) (stk := [cv_i I, cv_r (b + 1)]) rfl rfl rfl rfl rfl rfl ⟨rfl, rfl⟩ (R := fun o => ∃ (x : Int32) (hb : cv_H), o = (some (cv_i x), hb) ∧ cw_T G hb ∧ cw_Fr cw_Ds cw_sh kk_X5_readNumber_1.2.2.2.2.2.1 h hb ∧ zCr t n hb x (zbd S (zn t n x103.toInt x104.toInt))) (ct_readNumber (t := t) (n := n) (fun i => by rw [ht, ← hA _ Fh]) (fun i hi => by rw [hB _ Fh]; exact hwd i hi) hn9 hT hS x103 x104 (by omega) (by omega) (fun x hb b1 b2 b3 => ⟨x, hb, rfl, b1, b2, b3⟩)) (fun o ho => ?_)
      obtain ⟨x105, h106, rfl, Th106, Ch106, dx105⟩ := ho
      show cw_X _ _ _ _ _ [cv_i x105, cv_i I, cv_r (b + 1)] h106
      obtain ⟨z1, y1, wx105, Sh106⟩ : ∃ z, zbd S (zn t n x103.toInt x104.toInt) = z ∧ x105.toInt = zvl z ∧ zCs t n (zst z) h106 := ⟨_, rfl, zCr_i dx105⟩
      clear dx105
      have Fh106 : cw_Fr cw_Ds cw_sh kk_X5_readGround.2.2.2.2.2.1 h0 h106 := cw_Fr_tr Fh (cw_Fr_mono (by decide +kernel) Ch106)
      have eh106_50_3 : ri_at h106 50 3 = 1 := (ri_frf Ch106 (k := 50) (d := 5) rfl rfl (by decide +kernel)).trans h3
      have n1 := zvl_n y1
      rw [hx103] at y1 n1
      rw [hx104] at y1 n1
      refine ex_iw1 oq_X5_readGround_49 Th106 (k := (b + 1)) (d := 28) (j := acc.length) hkb1 rfl (by omega) (by omega) ⟨(cw_i32 _).1, (cw_i32 _).2⟩ (fun h107 Th107 wh107 => ?_)
      have Fh107 : cw_Fr cw_Ds cw_sh kk_X5_readGround.2.2.2.2.2.1 h0 h107 := cw_Fr_tr Fh106 (cw_Fr_wrr wh107 (k := (b + 1)) (d := 28) hkb1 rfl (by decide +kernel))
      have eh107_50_3 : ri_at h107 50 3 = 1 := (ri_ne wh107 (.inl (cw_kne (k := 50) (d := 5) (k' := (b + 1)) (d' := 28) rfl hkb1 (by decide)))).trans eh106_50_3
      clear eh106_50_3
      have Sh107 := zCs_wr (d := 28) (k := (b + 1)) wh107 hkb1 Sh106 (.inl ⟨by decide, by decide⟩)
      refine ex_incA oq_X5_readGround_50 (v := I) (m := 1) g1 (by decide) (by omega) (fun L109 x108 hx108 gL109_1 kL109 => ?_)
      have gL109_0 : cv_get L109 0 = some (cv_r 50) := kL109 0 _ (by decide) (fun _ => rfl) g0
      refine ex_go oq_X5_readGround_53 (t := 28) rfl rfl ?_
      exact ih (i + 1) L109 x108 (zst z1) h107 (acc ++ [zvl z1]) (by omega) Th107 Fh107 Sh107 (by rw [← hE, zns_V, y1]) (by rw [List.length_append, List.length_singleton]; omega) (row_app wh107 (fun j hj => ((ri_frr Ch106 (k := (b + 1)) (d := 28) hkb1 rfl (by decide +kernel))).trans (hr j hj)) (fun i => rfl) (by omega)) eh107_50_3 (by omega) gL109_0 gL109_1
theorem ct_readGround3 {h0 : cv_H} {n p : Nat} (ht : ∀ i, t i = ri_at h0 1 i % 256) (hwd : ∀ i, i < 34 → ri_at h0 52 i = tz_wc.getD i 0) (hn9 : n ≤ 900) (hT : cw_T G h0) {b : Nat} (hb : b = 2 ∨ b = 26) (hpl : zPL b h0) (hS : zCs t n (.inr p) h0) {gt : Int} (hg : ri_at h0 50 3 = gt) (hQ : ∀ h', cw_T G h' → cw_Fr cw_Ds cw_sh kk_X5_readGround.2.2.2.2.2.1 h0 h' → zCs t n (zst (zgl t n gt p)) h' ∧ (∀ v q, zgl t n gt p = .inr (v, q) → ri_at h' 50 3 = 1 ∧ ∀ j, j < 12 → ri_at h' (b + 1) j = v.getD j 0) → Q (none, h')) : cw_X X 65 Q 0 (cv_ent 0 [cv_r 50]) [] h0 := by
  have Fh0 : cw_Fr cw_Ds cw_sh kk_X5_readGround.2.2.2.2.2.1 h0 h0 := cw_Fr_refl
  have hA : ∀ h, cw_Fr cw_Ds cw_sh kk_X5_readGround.2.2.2.2.2.1 h0 h → ∀ i, ri_at h 1 i = ri_at h0 1 i := fun h F i => ri_frr F (k := 1) (d := 13) rfl rfl (by decide +kernel)
  have hB : ∀ h, cw_Fr cw_Ds cw_sh kk_X5_readGround.2.2.2.2.2.1 h0 h → ∀ i, ri_at h 52 i = ri_at h0 52 i := fun h F i => ri_frr F (k := 52) (d := 43) rfl rfl (by decide +kernel)
  have hPL : ∀ h, cw_Fr cw_Ds cw_sh kk_X5_readGround.2.2.2.2.2.1 h0 h → zPL b h := fun h F => zPL_fr hb F (by decide +kernel) hpl
  have hb4 : cw_sh[b]? = some 4 := by rcases hb with rfl | rfl <;> rfl
  have hkb1 : cw_sh[b + 1]? = some 28 := by rcases hb with rfl | rfl <;> rfl
  have hkb2 : cw_sh[b + 2]? = some 29 := by rcases hb with rfl | rfl <;> rfl
  have hkb3 : cw_sh[b + 3]? = some 30 := by rcases hb with rfl | rfl <;> rfl
  have hkb4 : cw_sh[b + 4]? = some 31 := by rcases hb with rfl | rfl <;> rfl
  have hkb5 : cw_sh[b + 5]? = some 32 := by rcases hb with rfl | rfl <;> rfl
  have hkb6 : cw_sh[b + 6]? = some 33 := by rcases hb with rfl | rfl <;> rfl
  have hkb7 : cw_sh[b + 7]? = some 34 := by rcases hb with rfl | rfl <;> rfl
  have hkb8 : cw_sh[b + 8]? = some 35 := by rcases hb with rfl | rfl <;> rfl
  have hkb9 : cw_sh[b + 9]? = some 36 := by rcases hb with rfl | rfl <;> rfl
  have hkb10 : cw_sh[b + 10]? = some 37 := by rcases hb with rfl | rfl <;> rfl
  have hkb11 : cw_sh[b + 11]? = some 38 := by rcases hb with rfl | rfl <;> rfl
  have hkb12 : cw_sh[b + 12]? = some 39 := by rcases hb with rfl | rfl <;> rfl
  have hkb13 : cw_sh[b + 13]? = some 40 := by rcases hb with rfl | rfl <;> rfl
  have hkb14 : cw_sh[b + 14]? = some 41 := by rcases hb with rfl | rfl <;> rfl
  have hkb15 : cw_sh[b + 15]? = some 42 := by rcases hb with rfl | rfl <;> rfl
  refine ex_al oq_X5_readGround_0 rfl ?_
  obtain ⟨pnh0, yah0, ybh0, ych0, ydh0, yfh0⟩ := zCs_at hS
  obtain ⟨kch0, ykh0⟩ : ∃ k, ri_at h0 51 4 = k := ⟨_, rfl⟩
  obtain ⟨vch0, yvh0⟩ : ∃ k, ri_at h0 51 6 = k := ⟨_, rfl⟩
  rw [ykh0, yvh0] at ydh0
  replace ydh0 := zhd_i ydh0
  have zlh0 := zx_le (t := t) (n := n) (p := p) (by omega)
  obtain ⟨x301, ax301, rx301, lx301, ux301⟩ := ri_fld (k := 50) (d := 5) (f := 3) hT rfl rfl rfl
  try dsimp only at lx301 ux301
  refine ex_gf oq_X5_readGround_1 hT (k := 50) (d := 5) rfl rfl ax301 ?_
  have rx301 := (rx301.symm.trans hg : x301.toInt = gt)
  refine ex_if0 oq_X5_readGround_4 (t := 14) rfl rfl (fun (c302 : x301.toInt = 0) => ?_) (fun (c302 : ¬ (x301.toInt = 0)) => ?_)
  · refine ex_al oq_X5_readGround_14 rfl ?_
    refine ex_ic oq_X5_readGround_15 (m := 1) (by decide) (fun x303 hx303 => ?_)
    refine ex_pfb oq_X5_readGround_16 hT (k := 50) (d := 5) rfl rfl rfl (by omega) (by omega) (fun h304 Th304 wh304 => ?_)
    have Fh304 : cw_Fr cw_Ds cw_sh kk_X5_readGround.2.2.2.2.2.1 h0 h304 := cw_Fr_tr Fh0 (cw_Fr_wrf wh304 (k := 50) (d := 5) rfl rfl (by decide +kernel))
    have eh304_50_3 : ri_at h304 50 3 = x303.toInt := ri_self wh304
    have Sh304 := zCs_wr (d := 5) (k := 50) wh304 rfl hS (.inr (by decide))
    refine ex_al oq_X5_readGround_19 rfl ?_
    refine ex_gf oq_X5_readGround_20 Th304 (k := 50) (d := 5) rfl rfl (ri_ref (k := 50) (k' := 51) (d := 5) (f := 0) Th304 rfl rfl rfl (by decide) (ri_uniq (by decide +kernel))) ?_
    refine ex_cv oq_X5_readGround_23 (by decide) Th304 (k := 51) (d := 6) (as := []) (stk := []) rfl rfl rfl rfl rfl rfl ⟨rfl, rfl⟩ (R := fun o => ∃ hb : cv_H, o = (none, hb) ∧ cw_T G hb ∧ cw_Fr cw_Ds cw_sh kk_X6_step.2.2.2.2.2.1 h304 hb ∧ zCs t n (.inr (zx t n p)) hb) (ct_stepC (t := t) (n := n) (p := p) (fun i => by rw [ht, ← hA _ Fh304]) (fun i hi => by rw [hB _ Fh304]; exact hwd i hi) hn9 Th304 Sh304 (fun hb b1 b2 b3 => ⟨hb, rfl, b1, b2, b3⟩)) (fun o ho => ?_)
    obtain ⟨h305, rfl, Th305, Ch305, Sh305⟩ := ho
    show cw_X _ _ _ _ _ [] h305
    have Fh305 : cw_Fr cw_Ds cw_sh kk_X5_readGround.2.2.2.2.2.1 h0 h305 := cw_Fr_tr Fh304 (cw_Fr_mono (by decide +kernel) Ch305)
    have eh305_50_3 : ri_at h305 50 3 = x303.toInt := (ri_frf Ch305 (k := 50) (d := 5) rfl rfl (by decide +kernel)).trans eh304_50_3
    clear eh304_50_3
    clear yah0 ybh0 ych0 ykh0 yvh0 yfh0
    obtain ⟨pnh305, yah305, ybh305, ych305, ydh305, yfh305⟩ := zCs_at Sh305
    obtain ⟨kch305, ykh305⟩ : ∃ k, ri_at h305 51 4 = k := ⟨_, rfl⟩
    obtain ⟨vch305, yvh305⟩ : ∃ k, ri_at h305 51 6 = k := ⟨_, rfl⟩
    rw [ykh305, yvh305] at ydh305
    replace ydh305 := zhd_i ydh305
    have zlh305 := zx_le (t := t) (n := n) (p := (zx t n p)) (by omega)
    refine ex_ic oq_X5_readGround_26 (m := 0) (by decide) (fun x306 hx306 => ?_)
    refine ex_isA oq_X5_readGround_27 (fun L307 gL307_1 kL307 => ?_)
    have gL307_0 : cv_get L307 0 = some (cv_r 50) := kL307 0 _ (by decide) (fun _ => rfl) rfl
    exact ct_groundV ht hwd hn9 hb hpl (Z := zns t n 1 99 12 (zx t n p)) (fun h' c1 c2 c3 c4 c5 => hQ h' c1 c2 (by unfold zgl; rw [if_pos (by omega)]; exact ⟨c3, fun v q e => ⟨c4, c5 v q e⟩⟩)) 12 0 L307 x306 (.inr (zx t n p)) h305 [] (by omega) Th305 Fh305 Sh305 zpre_nil rfl (fun j hj => absurd hj (Nat.not_lt_zero j)) (by omega) (by omega) gL307_0 gL307_1
  · replace c302 : ¬ x301.toInt = 0 := by omega
    refine ex_al oq_X5_readGround_7 rfl ?_
    refine ex_ic oq_X5_readGround_8 (m := 3) (by decide) (fun x308 hx308 => ?_)
    refine ex_cv oq_X5_readGround_9 (by decide) hT (k := 50) (d := 5) (as := [cv_i x308]) (stk := []) rfl rfl rfl rfl rfl rfl ⟨rfl, rfl⟩ (R := fun o => ∃ (x : Int32) (hb : cv_H), o = (some (cv_i x), hb) ∧ cw_T G hb ∧ cw_Fr cw_Ds cw_sh kk_X5_fail.2.2.2.2.2.1 h0 hb ∧ x.toInt = 0 ∧ zCs t n (.inl (3, za t n p)) hb) (ct_failP (t := t) (n := n) (p := p) hT hS x308 hx308 (by decide) (fun x hb b1 b2 b3 b4 => ⟨x, hb, rfl, b1, b2, b3, b4⟩)) (fun o ho => ?_)
    obtain ⟨x309, h310, rfl, Th310, Ch310, zh310, Sh310⟩ := ho
    show cw_X _ _ _ _ _ [cv_i x309] h310
    have Fh310 : cw_Fr cw_Ds cw_sh kk_X5_readGround.2.2.2.2.2.1 h0 h310 := cw_Fr_tr Fh0 (cw_Fr_mono (by decide +kernel) Ch310)
    have eh310_50_3 : ri_at h310 50 3 = gt := (ri_frf Ch310 (k := 50) (d := 5) rfl rfl (by decide +kernel)).trans hg
    refine ex_pop oq_X5_readGround_12 rfl ?_
    have fin : zst (zgl t n gt p) = (.inl (3, za t n p)) ∧ ∀ v q, zgl t n gt p = .inr (v, q) → True := by
      unfold zgl
      rw [if_neg (by omega)]
      exact ⟨rfl, fun v q h => by first | (cases h; done) | (cases h; rfl) | trivial⟩
    exact ex_retv oq_X5_readGround_13 rfl (hQ h310 Th310 Fh310 ⟨by rw [fin.1]; exact Sh310, fun v q h => (zst_no fin.1 h).elim⟩)
end TZ
