/-! ===== what lines tell, the class: a gate ===== -/
section TZ
variable {G : Int} {X : cv_X} {Q : cv_O → Prop} {t : Nat → Int}
theorem zhw_i {k w : Int} (h : 0 ≤ zhw k w) : k = 1 ∧ (zhw k w = 0 ∧ w = 9 ∨ zhw k w = 1 ∧ w = 10 ∨ zhw k w = 2 ∧ w = 11 ∨ zhw k w = 3 ∧ w = 12 ∨ zhw k w = 4 ∧ w = 13 ∨ zhw k w = 5 ∧ w = 14 ∨ zhw k w = 6 ∧ w = 15 ∨ zhw k w = 7 ∧ w = 32) := by
  unfold zhw at h ⊢
  by_cases c : k = 1
  · rw [if_pos c] at h ⊢
    by_cases c1 : 9 ≤ w ∧ w ≤ 15
    · rw [if_pos c1]; exact ⟨c, by omega⟩
    · rw [if_neg c1] at h ⊢
      by_cases c2 : w = 32
      · rw [if_pos c2]; exact ⟨c, by omega⟩
      · rw [if_neg c2] at h; omega
  · rw [if_neg c] at h; omega
/-- a part, whichever it is -/
theorem ct_partD {h0 : cv_H} {n p : Nat} (ht : ∀ i, t i = ri_at h0 1 i % 256) (hwd : ∀ i, i < 34 → ri_at h0 52 i = tz_wc.getD i 0) (hn9 : n ≤ 900) (hT : cw_T G h0) {b : Nat} (hb : b = 2 ∨ b = 26) (hpl : zPL b h0) {K : Nat} (hK7 : cw_sh[K]? = some 7) (hK44 : cw_sh[K + 1]? = some 44) (hKr : cw_at h0 K 16 = some (cv_r (K + 1))) (hS : zCs t n (.inr p) h0) {D : Nat → Int} (hD : zKD h0 K D) {hh : Int} (hg1 : ri_at h0 K 1 = hh) (hh2 : 24 ≤ hh ∧ hh ≤ 72) {cn : List Int} (hcc : ri_at h0 b 19 = cn.length) (hc6 : cn.length ≤ 6) (hcl : zNm h0 (b + 12) 0 cn) {cm : Nat} (hg14 : ri_at h0 K 14 = cm) (hcm : cm < 64) {m c q : Nat} (hz : 0 ≤ zhw (zk t n p) (zw t n p)) (ez : zpt t n hh cn m cm p = .inr (c, q)) (hQ : ∀ h', cw_T G h' → cw_Fr cw_Ds cw_sh kk_X5_readPart.2.2.2.2.2.1 h0 h' → zOK K h0 h' → (ri_at h' 50 4 ≠ 0 ∨ zKD h' K (zpW t n hh (zhw (zk t n p) (zw t n p)) (zx t n p) D)) → Q (none, h')) : cw_X X 68 Q 0 (cv_ent 0 [cv_r 50, cv_r K]) [] h0 := by
  unfold zpt at ez
  replace ez := ifl ez
  obtain ⟨hk, hw⟩ := zhw_i hz
  rcases hw with ⟨hW, hw⟩ | ⟨hW, hw⟩ | ⟨hW, hw⟩ | ⟨hW, hw⟩ | ⟨hW, hw⟩ | ⟨hW, hw⟩ | ⟨hW, hw⟩ | ⟨hW, hw⟩
  · rw [hW] at ez hQ
    unfold zhs at ez
    rw [if_pos rfl] at ez
    obtain ⟨_, q5, e1, -⟩ := zb2_e ez
    unfold zhk at e1
    obtain ⟨v1, q1, E1, e1⟩ := zb2_e e1
    obtain ⟨v2, q2, E2, e1⟩ := zb2_e e1
    obtain ⟨v3, q3, E3, e1⟩ := zb2_e e1
    obtain ⟨v4, q4, E4, e1⟩ := zb2_e e1
    refine ct_partD0 ht hwd hn9 hT hb hpl hK7 hK44 hKr hS ⟨hk, hw⟩ hD hg1 hh2 E1 E2 E3 E4 (fun h' a1 a2 a0 a3 => hQ h' a1 a2 a0 ?_)
    unfold zpW
    rw [if_pos rfl, zo_r E1, zo_r E2, zo_r E3, zo_r E4]
    exact a3
  · rw [hW] at ez hQ
    unfold zhs at ez
    rw [if_neg (by decide), if_pos rfl] at ez
    obtain ⟨v1, q1, E1, ez⟩ := zb2_e ez
    obtain ⟨vs, q2, e2, ez⟩ := zb2_e ez
    have e3 := e2
    obtain ⟨v2, q3, vs2, E2, -, rfl⟩ := zns_i e2
    refine ct_partD1 ht hwd hn9 hT hb hpl hK7 hK44 hKr hS ⟨hk, hw⟩ hD hg1 hh2 E1 E2 (fun h' a1 a2 a0 a3 => hQ h' a1 a2 a0 ?_)
    unfold zpW
    rw [if_neg (by decide), if_pos rfl, zo_r E1, zo_r e3]
    exact a3
  · rw [hW] at ez hQ
    unfold zhs at ez
    rw [if_neg (by decide), if_neg (by decide), if_pos rfl] at ez
    have E1 : zk t n (zx t n p) = 1 ∧ (zw t n (zx t n p) = 28 ∨ zw t n (zx t n p) = 29) := by
      by_cases c : zk t n (zx t n p) = 1 ∧ (zw t n (zx t n p) = 28 ∨ zw t n (zx t n p) = 29)
      · exact c
      · rw [if_neg c] at ez; cases ez
    refine ct_partD2 ht hwd hn9 hT hb hpl hK7 hK44 hKr hS ⟨hk, hw⟩ hD hg1 hh2 E1 (fun h' a1 a2 a0 a3 => hQ h' a1 a2 a0 ?_)
    unfold zpW
    rw [if_neg (by decide), if_neg (by decide), if_pos rfl]
    exact a3
  · rw [hW] at ez hQ
    unfold zhs at ez
    rw [if_neg (by decide), if_neg (by decide), if_neg (by decide), if_pos rfl] at ez
    obtain ⟨vs, q5, e2, ez⟩ := zb2_e ez
    have e3 := e2
    obtain ⟨v1, q1, vs1, E1, e4, rfl⟩ := zns_i e2
    obtain ⟨v2, q2, vs2, E2, -, rfl⟩ := zns_i e4
    refine ct_partD3 ht hwd hn9 hT hb hpl hK7 hK44 hKr hS ⟨hk, hw⟩ hD hg1 hh2 E1 E2 (fun h' a1 a2 a0 a3 => hQ h' a1 a2 a0 ?_)
    unfold zpW
    rw [if_neg (by decide), if_neg (by decide), if_neg (by decide), if_pos rfl, zo_r e3]
    exact a3
  · rw [hW] at ez hQ
    unfold zhs at ez
    rw [if_neg (by decide), if_neg (by decide), if_neg (by decide), if_neg (by decide), if_pos rfl] at ez
    obtain ⟨vs, q5, e2, ez⟩ := zb2_e ez
    have e3 := e2
    obtain ⟨v1, q1, vs1, E1, e4, rfl⟩ := zns_i e2
    refine ct_partD4 ht hwd hn9 hT hb hpl hK7 hK44 hKr hS ⟨hk, hw⟩ hD hg1 hh2 E1 (fun h' a1 a2 a0 a3 => hQ h' a1 a2 a0 ?_)
    unfold zpW
    rw [if_neg (by decide), if_neg (by decide), if_neg (by decide), if_neg (by decide), if_pos rfl, zo_r e3]
    exact a3
  · rw [hW] at ez hQ
    unfold zhs at ez
    rw [if_neg (by decide), if_neg (by decide), if_neg (by decide), if_neg (by decide), if_neg (by decide), if_pos rfl] at ez
    obtain ⟨vs, q1, E1, ez⟩ := zb2_e ez
    refine ct_partD5 ht hwd hn9 hT hb hpl hK7 hK44 hKr hS ⟨hk, hw⟩ hD hg1 hh2 E1 (fun h' a1 a2 a0 a3 => hQ h' a1 a2 a0 ?_)
    unfold zpW
    rw [if_neg (by decide), if_neg (by decide), if_neg (by decide), if_neg (by decide), if_neg (by decide), if_pos rfl, zo_r E1]
    exact a3
  · rw [hW] at ez hQ
    unfold zhs at ez
    rw [if_neg (by decide), if_neg (by decide), if_neg (by decide), if_neg (by decide), if_neg (by decide), if_neg (by decide), if_pos rfl] at ez
    refine ct_partD6 ht hwd hn9 hT hb hpl hK7 hK44 hKr hS ⟨hk, hw⟩ hD hg1 hh2 hcc hc6 hcl hg14 hcm (fun h' a1 a2 a0 a3 => hQ h' a1 a2 a0 ?_)
    unfold zpW
    rw [if_neg (by decide), if_neg (by decide), if_neg (by decide), if_neg (by decide), if_neg (by decide), if_neg (by decide), if_pos rfl]
    exact a3
  · rw [hW] at ez hQ
    unfold zhs at ez
    rw [if_neg (by decide), if_neg (by decide), if_neg (by decide), if_neg (by decide), if_neg (by decide), if_neg (by decide), if_neg (by decide)] at ez
    obtain ⟨vs, q5, e2, ez⟩ := zb2_e ez
    have e3 := e2
    obtain ⟨v1, q1, vs1, E1, e4, rfl⟩ := zns_i e2
    refine ct_partD7 ht hwd hn9 hT hb hpl hK7 hK44 hKr hS ⟨hk, hw⟩ hD hg1 hh2 E1 (fun h' a1 a2 a0 a3 => hQ h' a1 a2 a0 ?_)
    unfold zpW
    rw [if_neg (by decide), if_neg (by decide), if_neg (by decide), if_neg (by decide), if_neg (by decide), if_neg (by decide), if_neg (by decide), zo_r e3]
    exact a3
theorem cw_X_mono {mi pc : Nat} {Q1 Q2 : cv_O → Prop} {L : cv_L} {st : List cv_V} {h : cv_H} (a : cw_X X mi Q1 pc L st h) (b : ∀ o, Q1 o → Q2 o) : cw_X X mi Q2 pc L st h := by
  obtain ⟨o, e, q⟩ := a
  exact ⟨o, e, b o q⟩
theorem ct_partJ {h0 : cv_H} {n p : Nat} (ht : ∀ i, t i = ri_at h0 1 i % 256) (hwd : ∀ i, i < 34 → ri_at h0 52 i = tz_wc.getD i 0) (hn9 : n ≤ 900) (hT : cw_T G h0) {b : Nat} (hb : b = 2 ∨ b = 26) (hpl : zPL b h0) {K : Nat} (hK7 : cw_sh[K]? = some 7) (hK44 : cw_sh[K + 1]? = some 44) (hKr : cw_at h0 K 16 = some (cv_r (K + 1))) (hS : zCs t n (.inr p) h0) {D : Nat → Int} (hD : zKD h0 K D) {hh : Int} (hg1 : ri_at h0 K 1 = hh) (hh2 : 24 ≤ hh ∧ hh ≤ 72) {cn : List Int} (hcc : ri_at h0 b 19 = cn.length) (hc6 : cn.length ≤ 6) (hcl : zNm h0 (b + 12) 0 cn) {cm : Nat} (hg14 : ri_at h0 K 14 = cm) (hcm : cm < 64) {m c q : Nat} (hg15 : ri_at h0 K 15 = zpm m) (hm : m < 256) (hkw : ∀ kc vc : Int, ri_at h0 51 4 = kc → ri_at h0 51 6 = vc → kc = 2 ∧ 9 ≤ vc ∧ vc ≤ 16) (hz : 0 ≤ zhw (zk t n p) (zw t n p)) (ez : zpt t n hh cn m cm p = .inr (c, q)) (hQ : ∀ h', cw_T G h' → cw_Fr cw_Ds cw_sh kk_X5_readPart.2.2.2.2.2.1 h0 h' → zCs t n (.inr q) h' → zOK K h0 h' → (c < 64 ∧ ri_at h' K 14 = c ∧ ri_at h' K 15 = zpm (m ||| 2 ^ (zhw (zk t n p) (zw t n p)).toNat) ∧ ri_at h' K 1 = hh) → zKD h' K (zpW t n hh (zhw (zk t n p) (zw t n p)) (zx t n p) D) → Q (none, h')) : cw_X X 68 Q 0 (cv_ent 0 [cv_r 50, cv_r K]) [] h0 := by
  have a : cw_X X 68 (fun o => ∃ hb : cv_H, o = (none, hb) ∧ cw_T G hb ∧ cw_Fr cw_Ds cw_sh kk_X5_readPart.2.2.2.2.2.1 h0 hb ∧ zCs t n (.inr q) hb ∧ (c < 64 ∧ ri_at hb K 14 = c ∧ ri_at hb K 15 = zpm (m ||| 2 ^ (zhw (zk t n p) (zw t n p)).toNat) ∧ ri_at hb K 1 = hh)) 0 (cv_ent 0 [cv_r 50, cv_r K]) [] h0 :=
    ct_readPart ht hwd hn9 hT hb hpl hK7 hS hkw hcc hc6 hcl hg14 hcm hg1 hh2 hg15 hm (fun hb b1 b2 b3 b4 => ⟨hb, rfl, b1, b2, by rw [ez] at b4; exact b4.1, b4.2 c q ez⟩)
  have b : cw_X X 68 (fun o => ∃ hb : cv_H, o = (none, hb) ∧ zOK K h0 hb ∧ (ri_at hb 50 4 ≠ 0 ∨ zKD hb K (zpW t n hh (zhw (zk t n p) (zw t n p)) (zx t n p) D))) 0 (cv_ent 0 [cv_r 50, cv_r K]) [] h0 :=
    ct_partD ht hwd hn9 hT hb hpl hK7 hK44 hKr hS hD hg1 hh2 hcc hc6 hcl hg14 hcm hz ez (fun hb b1 b2 b0 b3 => ⟨hb, rfl, b0, b3⟩)
  refine cw_X_mono (cw_X_and a b) ?_
  rintro o ⟨⟨hb, rfl, a1, a2, a3, a4⟩, hb2, e, b0, b1⟩
  cases e
  exact hQ hb a1 a2 a3 b0 a4 (b1.resolve_left (fun e => e a3.2.2.1))
theorem ct_heightD {h0 : cv_H} (hT : cw_T G h0) {K : Nat} (hK7 : cw_sh[K]? = some 7) {x : Int32} (x0 : 0 ≤ x.toInt) (x1 : x.toInt ≤ 72) (hQ : ∀ h', cw_T G h' → cw_Fr cw_Ds cw_sh kk_X7_setHeight.2.2.2.2.2.1 h0 h' → zOK K h0 h' → ri_at h' K 1 = x.toInt → ri_at h' K 3 = 6 → ri_at h' K 4 = x.toInt - 6 → Q (none, h')) : cw_X X 87 Q 0 (cv_ent 0 [cv_r K, cv_i x]) [] h0 := by
  have Fh0 : cw_Fr cw_Ds cw_sh kk_X7_setHeight.2.2.2.2.2.1 h0 h0 := cw_Fr_refl
  have hOK : zOK K h0 h0 := zOK_0
  refine ex_al oq_X7_setHeight_0 rfl ?_
  refine ex_il oq_X7_setHeight_1 rfl ?_
  refine ex_pfi oq_X7_setHeight_2 hT (k := K) (d := 7) hK7 rfl rfl (by omega) (by omega) (fun h11 Th11 wh11 => ?_)
  have Fh11 : cw_Fr cw_Ds cw_sh kk_X7_setHeight.2.2.2.2.2.1 h0 h11 := cw_Fr_tr Fh0 (cw_Fr_wrf wh11 (k := K) (d := 7) hK7 rfl (by decide +kernel))
  have Wh11 := zOK_K wh11 hK7 hOK
  refine ex_al oq_X7_setHeight_5 rfl ?_
  refine ex_bi oq_X7_setHeight_6 (m := 6) (by decide) (fun x12 hx12 => ?_)
  refine ex_pfi oq_X7_setHeight_8 Th11 (k := K) (d := 7) hK7 rfl rfl (by omega) (by omega) (fun h13 Th13 wh13 => ?_)
  have Fh13 : cw_Fr cw_Ds cw_sh kk_X7_setHeight.2.2.2.2.2.1 h0 h13 := cw_Fr_tr Fh11 (cw_Fr_wrf wh13 (k := K) (d := 7) hK7 rfl (by decide +kernel))
  have Wh13 := zOK_K wh13 hK7 Wh11
  clear Wh11
  refine ex_al oq_X7_setHeight_11 rfl ?_
  refine ex_il oq_X7_setHeight_12 rfl ?_
  refine ex_bi oq_X7_setHeight_13 (m := 6) (by decide) (fun x14 hx14 => ?_)
  refine ex_sub oq_X7_setHeight_15 (by omega) (fun x15 hx15 => ?_)
  refine ex_pfi oq_X7_setHeight_16 Th13 (k := K) (d := 7) hK7 rfl rfl (by omega) (by omega) (fun h16 Th16 wh16 => ?_)
  have Fh16 : cw_Fr cw_Ds cw_sh kk_X7_setHeight.2.2.2.2.2.1 h0 h16 := cw_Fr_tr Fh13 (cw_Fr_wrf wh16 (k := K) (d := 7) hK7 rfl (by decide +kernel))
  have Wh16 := zOK_K wh16 hK7 Wh13
  clear Wh13
  exact ex_retv oq_X7_setHeight_19 rfl (hQ h16 Th16 Fh16 Wh16 (((((ri_ne wh16 (.inr (by decide))).trans (ri_ne wh13 (.inr (by decide))))).trans (ri_self wh11))) (((((ri_ne wh16 (.inr (by decide)))).trans (ri_self wh13))).trans (by omega)) ((((rfl).trans (ri_self wh16))).trans (by omega)))
/-- all parts: a gate's numbers, its causes -/
def zgF (t : Nat → Int) (n : Nat) (hh : Int) (cn : List Int) : Nat → Nat → Nat → Nat → (Nat → Int) → (Nat → Int) × Nat
  | 0, _, cm, _, D => (D, cm)
  | u + 1, m, cm, p, D => if zhw (zk t n p) (zw t n p) < 0 then (D, cm) else
    zo (zpt t n hh cn m cm p) (fun c q => zgF t n hh cn u (m ||| 2 ^ (zhw (zk t n p) (zw t n p)).toNat) c q (zpW t n hh (zhw (zk t n p) (zw t n p)) (zx t n p) D)) (D, cm)
theorem zgF_s {t : Nat → Int} {n : Nat} {hh : Int} {cn : List Int} {u m cm p : Nat} {D : Nat → Int} : zgF t n hh cn (u + 1) m cm p D = if zhw (zk t n p) (zw t n p) < 0 then (D, cm) else
    zo (zpt t n hh cn m cm p) (fun c q => zgF t n hh cn u (m ||| 2 ^ (zhw (zk t n p) (zw t n p)).toNat) c q (zpW t n hh (zhw (zk t n p) (zw t n p)) (zx t n p) D)) (D, cm) := rfl
def zgB (a hh w : Int) : Nat → Int := fun j => if 16 ≤ j then 0 else ([a, hh, w, 6, hh - 6, 0, 0, 36, 8, 0, 1000, 1000, 0, 3000] : List Int).getD j 0
theorem zgB_l {a hh w : Int} {j : Nat} (h : ¬ 16 ≤ j) : zgB a hh w j = ([a, hh, w, 6, hh - 6, 0, 0, 36, 8, 0, 1000, 1000, 0, 3000] : List Int).getD j 0 := if_neg h
theorem zgB_h {a hh w : Int} {j : Nat} (h : 16 ≤ j) : zgB a hh w j = 0 := if_pos h
theorem gt_xD {h0 : cv_H} {b : Nat} (hb : b = 2 ∨ b = 26) (hpl : zPL b h0) {K : Nat} (hK7 : cw_sh[K]? = some 7) (hK44 : cw_sh[K + 1]? = some 44) {l : List Int} {N : Int32} (hN : N.toInt = l.length) (hlm : l.length < 4) {R : (Nat → Int) × Nat} (hQ : ∀ h', cw_T G h' → cw_Fr cw_Ds cw_sh kk_X5_readGate.2.2.2.2.2.1 h0 h' → zOK K h0 h' → zKD h' K R.1 → ri_at h' K 14 = R.2 → Q (none, h')) (h : cv_H) {L : cv_L} (hT : cw_T G h) (Fh : cw_Fr cw_Ds cw_sh kk_X5_readGate.2.2.2.2.2.1 h0 h) (hOK : zOK K h0 h) (hD : zKD h K R.1) (hi14 : ri_at h K 14 = R.2) (g0 : cv_get L 0 = some (cv_r 50)) (g1 : cv_get L 1 = some (cv_i N)) : cw_X X 67 Q 141 L [] h := by
  have Fh0 : cw_Fr cw_Ds cw_sh kk_X5_readGate.2.2.2.2.2.1 h0 h0 := cw_Fr_refl
  have hPL : ∀ h, cw_Fr cw_Ds cw_sh kk_X5_readGate.2.2.2.2.2.1 h0 h → zPL b h := fun h F => zPL_fr hb F (by decide +kernel) hpl
  have hb4 : cw_sh[b]? = some 4 := by rcases hb with rfl | rfl <;> rfl
  have hkb1 : cw_sh[b + 1]? = some 28 := by rcases hb with rfl | rfl <;> rfl
  have hkb2 : cw_sh[b + 2]? = some 29 := by rcases hb with rfl | rfl <;> rfl
  have hkb3 : cw_sh[b + 3]? = some 30 := by rcases hb with rfl | rfl <;> rfl
  have hkb4 : cw_sh[b + 4]? = some 31 := by rcases hb with rfl | rfl <;> rfl
  have hkb5 : cw_sh[b + 5]? = some 32 := by rcases hb with rfl | rfl <;> rfl
  have hkb6 : cw_sh[b + 6]? = some 33 := by rcases hb with rfl | rfl <;> rfl
  have hkb7 : cw_sh[b + 7]? = some 34 := by rcases hb with rfl | rfl <;> rfl
  have hkb8 : cw_sh[b + 8]? = some 35 := by rcases hb with rfl | rfl <;> rfl
  have hkb9 : cw_sh[b + 9]? = some 36 := by rcases hb with rfl | rfl <;> rfl
  have hkb10 : cw_sh[b + 10]? = some 37 := by rcases hb with rfl | rfl <;> rfl
  have hkb11 : cw_sh[b + 11]? = some 38 := by rcases hb with rfl | rfl <;> rfl
  have hkb12 : cw_sh[b + 12]? = some 39 := by rcases hb with rfl | rfl <;> rfl
  have hkb13 : cw_sh[b + 13]? = some 40 := by rcases hb with rfl | rfl <;> rfl
  have hkb14 : cw_sh[b + 14]? = some 41 := by rcases hb with rfl | rfl <;> rfl
  have hkb15 : cw_sh[b + 15]? = some 42 := by rcases hb with rfl | rfl <;> rfl
  refine ex_al oq_X5_readGate_141 g0 ?_
  refine ex_gf oq_X5_readGate_142 hT (k := 50) (d := 5) rfl rfl ((hPL _ Fh).1) ?_
  refine ex_il oq_X5_readGate_145 g1 ?_
  refine ex_ic oq_X5_readGate_146 (m := 1) (by decide) (fun x51 hx51 => ?_)
  refine ex_add oq_X5_readGate_147 (by omega) (fun x52 hx52 => ?_)
  refine ex_pfi oq_X5_readGate_148 hT (k := b) (d := 4) hb4 rfl rfl (by omega) (by omega) (fun h53 Th53 wh53 => ?_)
  have Fh53 : cw_Fr cw_Ds cw_sh kk_X5_readGate.2.2.2.2.2.1 h0 h53 := cw_Fr_tr Fh (cw_Fr_wrf wh53 (k := b) (d := 4) hb4 rfl (by decide +kernel))
  have Wh53 := zOK_d (d := 4) (k := b) wh53 hb4 (by decide) hOK
  exact ex_retv oq_X5_readGate_151 rfl (hQ h53 Th53 Fh53 Wh53 ⟨fun j hj => match j, hj with | 0, _ => ((ri_ne wh53 (.inl (cw_kne (k := K) (d := 7) (k' := b) (d' := 4) hK7 hb4 (by decide))))).trans (hD.1 0 (by decide)) | 1, _ => ((ri_ne wh53 (.inl (cw_kne (k := K) (d := 7) (k' := b) (d' := 4) hK7 hb4 (by decide))))).trans (hD.1 1 (by decide)) | 2, _ => ((ri_ne wh53 (.inl (cw_kne (k := K) (d := 7) (k' := b) (d' := 4) hK7 hb4 (by decide))))).trans (hD.1 2 (by decide)) | 3, _ => ((ri_ne wh53 (.inl (cw_kne (k := K) (d := 7) (k' := b) (d' := 4) hK7 hb4 (by decide))))).trans (hD.1 3 (by decide)) | 4, _ => ((ri_ne wh53 (.inl (cw_kne (k := K) (d := 7) (k' := b) (d' := 4) hK7 hb4 (by decide))))).trans (hD.1 4 (by decide)) | 5, _ => ((ri_ne wh53 (.inl (cw_kne (k := K) (d := 7) (k' := b) (d' := 4) hK7 hb4 (by decide))))).trans (hD.1 5 (by decide)) | 6, _ => ((ri_ne wh53 (.inl (cw_kne (k := K) (d := 7) (k' := b) (d' := 4) hK7 hb4 (by decide))))).trans (hD.1 6 (by decide)) | 7, _ => ((ri_ne wh53 (.inl (cw_kne (k := K) (d := 7) (k' := b) (d' := 4) hK7 hb4 (by decide))))).trans (hD.1 7 (by decide)) | 8, _ => ((ri_ne wh53 (.inl (cw_kne (k := K) (d := 7) (k' := b) (d' := 4) hK7 hb4 (by decide))))).trans (hD.1 8 (by decide)) | 9, _ => ((ri_ne wh53 (.inl (cw_kne (k := K) (d := 7) (k' := b) (d' := 4) hK7 hb4 (by decide))))).trans (hD.1 9 (by decide)) | 10, _ => ((ri_ne wh53 (.inl (cw_kne (k := K) (d := 7) (k' := b) (d' := 4) hK7 hb4 (by decide))))).trans (hD.1 10 (by decide)) | 11, _ => ((ri_ne wh53 (.inl (cw_kne (k := K) (d := 7) (k' := b) (d' := 4) hK7 hb4 (by decide))))).trans (hD.1 11 (by decide)) | 12, _ => ((ri_ne wh53 (.inl (cw_kne (k := K) (d := 7) (k' := b) (d' := 4) hK7 hb4 (by decide))))).trans (hD.1 12 (by decide)) | 13, _ => ((ri_ne wh53 (.inl (cw_kne (k := K) (d := 7) (k' := b) (d' := 4) hK7 hb4 (by decide))))).trans (hD.1 13 (by decide)) | j + 14, hj => absurd hj (by omega), fun j hj => ((ri_ne wh53 (.inl (cw_kne (k := (K + 1)) (d := 44) (k' := b) (d' := 4) hK44 hb4 (by decide))))).trans (hD.2 j hj)⟩ (((ri_ne wh53 (.inl (cw_kne (k := K) (d := 7) (k' := b) (d' := 4) hK7 hb4 (by decide))))).trans hi14))
set_option maxHeartbeats 8000000 in
theorem gt_lpD {h0 : cv_H} {n : Nat} (ht : ∀ i, t i = ri_at h0 1 i % 256) (hwd : ∀ i, i < 34 → ri_at h0 52 i = tz_wc.getD i 0) (hn9 : n ≤ 900)  {b : Nat} (hb : b = 2 ∨ b = 26) (hpl : zPL b h0) {K : Nat} (hK7 : cw_sh[K]? = some 7) (hK44 : cw_sh[K + 1]? = some 44) (hKr : cw_at h0 K 16 = some (cv_r (K + 1))) {cn : List Int} (hcc : ri_at h0 b 19 = cn.length) (hc6 : cn.length ≤ 6) (hcl : zNm h0 (b + 12) 0 cn) {l : List Int} {N : Int32} (hN : N.toInt = l.length) (hlm : l.length < 4) {R : (Nat → Int) × Nat} {v0 : Int} {q0 : Nat} (hQ : ∀ h', cw_T G h' → cw_Fr cw_Ds cw_sh kk_X5_readGate.2.2.2.2.2.1 h0 h' → zOK K h0 h' → zKD h' K R.1 → ri_at h' K 14 = R.2 → Q (none, h')) {hh : Int} (hih : 24 ≤ hh ∧ hh ≤ 72) :
    ∀ (u i : Nat) (L : cv_L) (I : Int32) (p m cm : Nat) (D : Nat → Int) (h : cv_H), i + u = 901 → cw_T G h → cw_Fr cw_Ds cw_sh kk_X5_readGate.2.2.2.2.2.1 h0 h → zOK K h0 h → zCs t n (.inr p) h → zgp t n hh cn u m cm p = .inr (v0, q0) → zgF t n hh cn u m cm p D = R → zKD h K D → ri_at h K 14 = cm → cm < 64 → ri_at h K 1 = hh → 24 ≤ hh ∧ hh ≤ 72 → ri_at h K 15 = zpm m → m < 256 → n < u + p → I.toInt = i → cv_get L 0 = some (cv_r 50) → cv_get L 1 = some (cv_i N) → cv_get L 2 = some (cv_r K) → cv_get L 3 = some (cv_i I) → cw_X X 67 Q 102 L [] h := by
  have Fh0 : cw_Fr cw_Ds cw_sh kk_X5_readGate.2.2.2.2.2.1 h0 h0 := cw_Fr_refl
  have hA : ∀ h, cw_Fr cw_Ds cw_sh kk_X5_readGate.2.2.2.2.2.1 h0 h → ∀ i, ri_at h 1 i = ri_at h0 1 i := fun h F i => ri_frr F (k := 1) (d := 13) rfl rfl (by decide +kernel)
  have hB : ∀ h, cw_Fr cw_Ds cw_sh kk_X5_readGate.2.2.2.2.2.1 h0 h → ∀ i, ri_at h 52 i = ri_at h0 52 i := fun h F i => ri_frr F (k := 52) (d := 43) rfl rfl (by decide +kernel)
  have hPL : ∀ h, cw_Fr cw_Ds cw_sh kk_X5_readGate.2.2.2.2.2.1 h0 h → zPL b h := fun h F => zPL_fr hb F (by decide +kernel) hpl
  have hb4 : cw_sh[b]? = some 4 := by rcases hb with rfl | rfl <;> rfl
  have hkb1 : cw_sh[b + 1]? = some 28 := by rcases hb with rfl | rfl <;> rfl
  have hkb2 : cw_sh[b + 2]? = some 29 := by rcases hb with rfl | rfl <;> rfl
  have hkb3 : cw_sh[b + 3]? = some 30 := by rcases hb with rfl | rfl <;> rfl
  have hkb4 : cw_sh[b + 4]? = some 31 := by rcases hb with rfl | rfl <;> rfl
  have hkb5 : cw_sh[b + 5]? = some 32 := by rcases hb with rfl | rfl <;> rfl
  have hkb6 : cw_sh[b + 6]? = some 33 := by rcases hb with rfl | rfl <;> rfl
  have hkb7 : cw_sh[b + 7]? = some 34 := by rcases hb with rfl | rfl <;> rfl
  have hkb8 : cw_sh[b + 8]? = some 35 := by rcases hb with rfl | rfl <;> rfl
  have hkb9 : cw_sh[b + 9]? = some 36 := by rcases hb with rfl | rfl <;> rfl
  have hkb10 : cw_sh[b + 10]? = some 37 := by rcases hb with rfl | rfl <;> rfl
  have hkb11 : cw_sh[b + 11]? = some 38 := by rcases hb with rfl | rfl <;> rfl
  have hkb12 : cw_sh[b + 12]? = some 39 := by rcases hb with rfl | rfl <;> rfl
  have hkb13 : cw_sh[b + 13]? = some 40 := by rcases hb with rfl | rfl <;> rfl
  have hkb14 : cw_sh[b + 14]? = some 41 := by rcases hb with rfl | rfl <;> rfl
  have hkb15 : cw_sh[b + 15]? = some 42 := by rcases hb with rfl | rfl <;> rfl
  have hKR : ∀ h, cw_Fr cw_Ds cw_sh kk_X5_readGate.2.2.2.2.2.1 h0 h → cw_at h K 16 = some (cv_r (K + 1)) := fun h F => (F.2 K 7 16 hK7 (by decide +kernel)).trans hKr
  have hC19 : ∀ h, cw_Fr cw_Ds cw_sh kk_X5_readGate.2.2.2.2.2.1 h0 h → ri_at h b 19 = ri_at h0 b 19 := fun h F => ri_frf F (k := b) (d := 4) hb4 rfl (by decide +kernel)
  have hC12 : ∀ h, cw_Fr cw_Ds cw_sh kk_X5_readGate.2.2.2.2.2.1 h0 h → ∀ i, ri_at h (b + 12) i = ri_at h0 (b + 12) i := fun h F i => ri_frr F (k := b + 12) (d := 39) hkb12 rfl (by decide +kernel)
  intro u
  induction u with
  | zero =>
    intro i L I p m cm D h hiu hT Fh hOK hS hE hF hD hi14 hicm hi1 hih2 hi15 him hpu hii g0 g1 g2 g3
    exact absurd hS.1 (by omega)
  | succ u ih =>
    intro i L I p m cm D h hiu hT Fh hOK hS hE hF hD hi14 hicm hi1 hih2 hi15 him hpu hii g0 g1 g2 g3
    have hpn := hS.1
    refine ex_il oq_X5_readGate_102 g3 ?_
    refine ex_si oq_X5_readGate_103 (m := 900) (by decide) (fun x201 hx201 => ?_)
    refine ex_if oq_X5_readGate_106 (t := 141) rfl rfl (fun (c202 : x201.toInt < I.toInt) => ?_) (fun (c202 : ¬ (x201.toInt < I.toInt)) => ?_)
    · exfalso; omega
    · refine ex_al oq_X5_readGate_109 g0 ?_
      obtain ⟨pnh, yah, ybh, ych, ydh, yfh⟩ := zCs_at hS
      obtain ⟨kch, ykh⟩ : ∃ k, ri_at h 51 4 = k := ⟨_, rfl⟩
      obtain ⟨vch, yvh⟩ : ∃ k, ri_at h 51 6 = k := ⟨_, rfl⟩
      rw [ykh, yvh] at ydh
      replace ydh := zhd_i ydh
      have zlh := zx_le (t := t) (n := n) (p := p) (by omega)
      obtain ⟨x203, ax203, rx203, lx203, ux203⟩ := ri_fld (k := 50) (d := 5) (f := 4) hT rfl rfl rfl
      try dsimp only at lx203 ux203
      refine ex_gf oq_X5_readGate_110 hT (k := 50) (d := 5) rfl rfl ax203 ?_
      clear lx203 ux203
      have rx203 := (rx203.symm.trans yfh : x203.toInt = 0)
      refine ex_if0 oq_X5_readGate_113 (t := 141) rfl rfl (fun (c204 : ¬ x203.toInt = 0) => ?_) (fun (c204 : ¬ (¬ x203.toInt = 0)) => ?_)
      · exfalso; omega
      · refine ex_al oq_X5_readGate_116 g0 ?_
        refine ex_gf oq_X5_readGate_117 hT (k := 50) (d := 5) rfl rfl (ri_ref (k := 50) (k' := 51) (d := 5) (f := 0) hT rfl rfl rfl (by decide) (ri_uniq (by decide +kernel))) ?_
        refine ex_bi oq_X5_readGate_120 (m := 9) (by decide) (fun x205 hx205 => ?_)
        refine ex_bi oq_X5_readGate_122 (m := 16) (by decide) (fun x206 hx206 => ?_)
        refine ex_cv oq_X5_readGate_124 (by decide) hT (k := 51) (d := 6) (as := [cv_i x205, cv_i x206]) (stk := []) rfl rfl rfl rfl rfl rfl ⟨rfl, rfl⟩ (R := fun o => ∃ x : Int32, o = (some (cv_i x), h) ∧ (x.toInt = 1 ∧ (kch = 2 ∧ x205.toInt ≤ vch ∧ vch ≤ x206.toInt) ∨ x.toInt = 0 ∧ ¬ (kch = 2 ∧ x205.toInt ≤ vch ∧ vch ≤ x206.toInt))) (ct_isWordFrom hT x205 x206 ykh yvh (fun x q => ⟨x, rfl, q⟩)) (fun o ho => ?_)
        obtain ⟨x207, rfl, dx207⟩ := ho
        show cw_X _ _ _ _ _ [cv_i x207] h
        rw [hx205] at dx207
        rw [hx206] at dx207
        refine ex_if0 oq_X5_readGate_127 (t := 141) rfl rfl (fun (c208 : x207.toInt = 0) => ?_) (fun (c208 : ¬ (x207.toInt = 0)) => ?_)
        · have rz := zhw_c (show tz_rel _ _ _ _ from ydh)
          rw [zgF_s, if_pos (by omega)] at hF
          subst hF
          exact gt_xD hb hpl hK7 hK44 hN hlm hQ h hT Fh hOK ⟨fun j hj => match j, hj with | 0, _ => (rfl).trans (hD.1 0 (by decide)) | 1, _ => (rfl).trans (hD.1 1 (by decide)) | 2, _ => (rfl).trans (hD.1 2 (by decide)) | 3, _ => (rfl).trans (hD.1 3 (by decide)) | 4, _ => (rfl).trans (hD.1 4 (by decide)) | 5, _ => (rfl).trans (hD.1 5 (by decide)) | 6, _ => (rfl).trans (hD.1 6 (by decide)) | 7, _ => (rfl).trans (hD.1 7 (by decide)) | 8, _ => (rfl).trans (hD.1 8 (by decide)) | 9, _ => (rfl).trans (hD.1 9 (by decide)) | 10, _ => (rfl).trans (hD.1 10 (by decide)) | 11, _ => (rfl).trans (hD.1 11 (by decide)) | 12, _ => (rfl).trans (hD.1 12 (by decide)) | 13, _ => (rfl).trans (hD.1 13 (by decide)) | j + 14, hj => absurd hj (by omega), fun j hj => (rfl).trans (hD.2 j hj)⟩ ((rfl).trans hi14) g0 g1
        · have rz := zhw_c (show tz_rel _ _ _ _ from ydh)
          have hge0 : 0 ≤ zhw (zk t n p) (zw t n p) := by omega
          have hkw2 : ∀ kc vc : Int, ri_at h 51 4 = kc → ri_at h 51 6 = vc → kc = 2 ∧ 9 ≤ vc ∧ vc ≤ 16 := fun kc vc a b => by omega
          clear rz
          rw [zgp_p (by omega)] at hE
          obtain ⟨c, q, ez, hE2⟩ := zb2_e hE
          have hq := zpt_ge hpn ez
          have hwb := zhw_b (k := zk t n p) (w := zw t n p)
          have hgt : p < zx t n p := zx_gt hpn (by omega)
          refine ex_al oq_X5_readGate_130 g0 ?_
          refine ex_al oq_X5_readGate_131 g2 ?_
          refine ex_cv oq_X5_readGate_132 (by decide) hT (k := 50) (d := 5) (as := [cv_r K]) (stk := []) rfl rfl rfl rfl rfl rfl ⟨rfl, rfl⟩ (R := fun o => ∃ hb : cv_H, o = (none, hb) ∧ cw_T G hb ∧ cw_Fr cw_Ds cw_sh kk_X5_readPart.2.2.2.2.2.1 h hb ∧ zCs t n (.inr q) hb ∧ zOK K h hb ∧ (c < 64 ∧ ri_at hb K 14 = c ∧ ri_at hb K 15 = zpm (m ||| 2 ^ (zhw (zk t n p) (zw t n p)).toNat) ∧ ri_at hb K 1 = hh) ∧ zKD hb K (zpW t n hh (zhw (zk t n p) (zw t n p)) (zx t n p) D)) (ct_partJ (t := t) (n := n) (p := p) (fun i => by rw [ht, ← hA _ Fh]) (fun i hi => by rw [hB _ Fh]; exact hwd i hi) hn9 hT hb (hPL _ Fh) hK7 hK44 (hKR _ Fh) hS hD hi1 hih (cn := cn) ((hC19 _ Fh).trans hcc) hc6 (zNm_eq hcl (hC12 _ Fh)) hi14 hicm hi15 him hkw2 hge0 ez (fun hb b1 b2 b3 b0 b4 b5 => ⟨hb, rfl, b1, b2, b3, b0, b4, b5⟩)) (fun o ho => ?_)
          obtain ⟨h209, rfl, Th209, Ch209, Sh209, oh209, B2, Dh209⟩ := ho
          show cw_X _ _ _ _ _ [] h209
          have Fh209 : cw_Fr cw_Ds cw_sh kk_X5_readGate.2.2.2.2.2.1 h0 h209 := cw_Fr_tr Fh (cw_Fr_mono (by decide +kernel) Ch209)
          have Wh209 := zOK_tr hOK oh209
          clear yah ybh ych ykh yvh yfh
          obtain ⟨pnh209, yah209, ybh209, ych209, ydh209, yfh209⟩ := zCs_at Sh209
          obtain ⟨kch209, ykh209⟩ : ∃ k, ri_at h209 51 4 = k := ⟨_, rfl⟩
          obtain ⟨vch209, yvh209⟩ : ∃ k, ri_at h209 51 6 = k := ⟨_, rfl⟩
          rw [ykh209, yvh209] at ydh209
          replace ydh209 := zhd_i ydh209
          have zlh209 := zx_le (t := t) (n := n) (p := q) (by omega)
          refine ex_incA oq_X5_readGate_135 (v := I) (m := 1) g3 (by decide) (by omega) (fun L211 x210 hx210 gL211_3 kL211 => ?_)
          have gL211_0 : cv_get L211 0 = some (cv_r 50) := kL211 0 _ (by decide) (fun q => absurd q (by decide)) g0
          have gL211_1 : cv_get L211 1 = some (cv_i N) := kL211 1 _ (by decide) (fun q => absurd q (by decide)) g1
          have gL211_2 : cv_get L211 2 = some (cv_r K) := kL211 2 _ (by decide) (fun _ => rfl) g2
          refine ex_go oq_X5_readGate_138 (t := 102) rfl rfl ?_
          exact ih (i + 1) L211 x210 q (m ||| 2 ^ (zhw (zk t n p) (zw t n p)).toNat) c _ h209 (by omega) Th209 Fh209 Wh209 Sh209 hE2 (by rw [← hF, zgF_s, if_neg (by omega), zo_r ez]) Dh209 B2.2.1 B2.1 B2.2.2.2 hih B2.2.2.1 (bt_256 him (by omega)) (by omega) (by omega) gL211_0 gL211_1 gL211_2 gL211_3
set_option maxHeartbeats 8000000 in
theorem ct_gateD {h0 : cv_H} {n p : Nat} (ht : ∀ i, t i = ri_at h0 1 i % 256) (hwd : ∀ i, i < 34 → ri_at h0 52 i = tz_wc.getD i 0) (hn9 : n ≤ 900) (hT : cw_T G h0) {b : Nat} (hb : b = 2 ∨ b = 26) (hpl : zPL b h0) {K : Nat} (hK7 : cw_sh[K]? = some 7) (hK44 : cw_sh[K + 1]? = some 44) (hKr : cw_at h0 K 16 = some (cv_r (K + 1))) (hS : zCs t n (.inr p) h0) {l : List Int} (hKe : K = b + 16 + 2 * l.length) (hc : ri_at h0 b 9 = l.length) (hlm : l.length < 4) (hl : zNm h0 (b + 7) 0 l) {cn : List Int} (hcc : ri_at h0 b 19 = cn.length) (hc6 : cn.length ≤ 6) (hcl : zNm h0 (b + 12) 0 cn) {nm a hh w v0 : Int} {p1 p2 p3 p4 q0 : Nat} (E1 : zm t n l (zx t n p) = .inr (nm, p1)) (E2 : zn t n 24 144 p1 = .inr (a, p2)) (E3 : zn t n 24 72 p2 = .inr (hh, p3)) (E4 : zn t n 20 400 p3 = .inr (w, p4)) (E5 : zgp t n hh cn 901 0 0 p4 = .inr (v0, q0)) (hdf : ∀ j, 5 ≤ j → j < 14 → ri_at h0 K j = ([0, 0, 0, 0, 0, 0, 0, 36, 8, 0, 1000, 1000, 0, 3000] : List Int).getD j 0) (hd14 : ri_at h0 K 14 = 0) (hd15 : ri_at h0 K 15 = 0) (hdr : ∀ j, j < 9 → ri_at h0 (K + 1) j = 0)
    (hQ : ∀ h', cw_T G h' → cw_Fr cw_Ds cw_sh kk_X5_readGate.2.2.2.2.2.1 h0 h' → zOK K h0 h' → zKD h' K (zgF t n hh cn 901 0 0 p4 (zgB a hh w)).1 → ri_at h' K 14 = (zgF t n hh cn 901 0 0 p4 (zgB a hh w)).2 → Q (none, h')) : cw_X X 67 Q 0 (cv_ent 0 [cv_r 50]) [] h0 := by
  have Fh0 : cw_Fr cw_Ds cw_sh kk_X5_readGate.2.2.2.2.2.1 h0 h0 := cw_Fr_refl
  have hA : ∀ h, cw_Fr cw_Ds cw_sh kk_X5_readGate.2.2.2.2.2.1 h0 h → ∀ i, ri_at h 1 i = ri_at h0 1 i := fun h F i => ri_frr F (k := 1) (d := 13) rfl rfl (by decide +kernel)
  have hB : ∀ h, cw_Fr cw_Ds cw_sh kk_X5_readGate.2.2.2.2.2.1 h0 h → ∀ i, ri_at h 52 i = ri_at h0 52 i := fun h F i => ri_frr F (k := 52) (d := 43) rfl rfl (by decide +kernel)
  have hPL : ∀ h, cw_Fr cw_Ds cw_sh kk_X5_readGate.2.2.2.2.2.1 h0 h → zPL b h := fun h F => zPL_fr hb F (by decide +kernel) hpl
  have hb4 : cw_sh[b]? = some 4 := by rcases hb with rfl | rfl <;> rfl
  have hkb1 : cw_sh[b + 1]? = some 28 := by rcases hb with rfl | rfl <;> rfl
  have hkb2 : cw_sh[b + 2]? = some 29 := by rcases hb with rfl | rfl <;> rfl
  have hkb3 : cw_sh[b + 3]? = some 30 := by rcases hb with rfl | rfl <;> rfl
  have hkb4 : cw_sh[b + 4]? = some 31 := by rcases hb with rfl | rfl <;> rfl
  have hkb5 : cw_sh[b + 5]? = some 32 := by rcases hb with rfl | rfl <;> rfl
  have hkb6 : cw_sh[b + 6]? = some 33 := by rcases hb with rfl | rfl <;> rfl
  have hkb7 : cw_sh[b + 7]? = some 34 := by rcases hb with rfl | rfl <;> rfl
  have hkb8 : cw_sh[b + 8]? = some 35 := by rcases hb with rfl | rfl <;> rfl
  have hkb9 : cw_sh[b + 9]? = some 36 := by rcases hb with rfl | rfl <;> rfl
  have hkb10 : cw_sh[b + 10]? = some 37 := by rcases hb with rfl | rfl <;> rfl
  have hkb11 : cw_sh[b + 11]? = some 38 := by rcases hb with rfl | rfl <;> rfl
  have hkb12 : cw_sh[b + 12]? = some 39 := by rcases hb with rfl | rfl <;> rfl
  have hkb13 : cw_sh[b + 13]? = some 40 := by rcases hb with rfl | rfl <;> rfl
  have hkb14 : cw_sh[b + 14]? = some 41 := by rcases hb with rfl | rfl <;> rfl
  have hkb15 : cw_sh[b + 15]? = some 42 := by rcases hb with rfl | rfl <;> rfl
  have hKR : ∀ h, cw_Fr cw_Ds cw_sh kk_X5_readGate.2.2.2.2.2.1 h0 h → cw_at h K 16 = some (cv_r (K + 1)) := fun h F => (F.2 K 7 16 hK7 (by decide +kernel)).trans hKr
  have hC19 : ∀ h, cw_Fr cw_Ds cw_sh kk_X5_readGate.2.2.2.2.2.1 h0 h → ri_at h b 19 = ri_at h0 b 19 := fun h F => ri_frf F (k := b) (d := 4) hb4 rfl (by decide +kernel)
  have hC12 : ∀ h, cw_Fr cw_Ds cw_sh kk_X5_readGate.2.2.2.2.2.1 h0 h → ∀ i, ri_at h (b + 12) i = ri_at h0 (b + 12) i := fun h F i => ri_frr F (k := b + 12) (d := 39) hkb12 rfl (by decide +kernel)
  have hOK : zOK K h0 h0 := zOK_0
  refine ex_al oq_X5_readGate_0 rfl ?_
  refine ex_gf oq_X5_readGate_1 hT (k := 50) (d := 5) rfl rfl ((hPL _ Fh0).1) ?_
  obtain ⟨x301, ax301, rx301, lx301, ux301⟩ := ri_fld (k := b) (d := 4) (f := 9) hT hb4 rfl rfl
  try dsimp only at lx301 ux301
  refine ex_gf oq_X5_readGate_4 hT (k := b) (d := 4) hb4 rfl ax301 ?_
  have rx301 := (rx301.symm.trans hc : x301.toInt = (l.length : Int))
  refine ex_isA oq_X5_readGate_7 (fun L302 gL302_1 kL302 => ?_)
  have gL302_0 : cv_get L302 0 = some (cv_r 50) := kL302 0 _ (by decide) (fun _ => rfl) rfl
  refine ex_il oq_X5_readGate_8 gL302_1 ?_
  refine ex_if0 oq_X5_readGate_9 (t := 17) rfl rfl (fun (c303 : x301.toInt < 0) => ?_) (fun (c303 : ¬ (x301.toInt < 0)) => ?_)
  · exfalso; omega
  · refine ex_il oq_X5_readGate_12 gL302_1 ?_
    refine ex_ic oq_X5_readGate_13 (m := 4) (by decide) (fun x304 hx304 => ?_)
    refine ex_if oq_X5_readGate_14 (t := 24) rfl rfl (fun (c305 : x301.toInt < x304.toInt) => ?_) (fun (c305 : ¬ (x301.toInt < x304.toInt)) => ?_)
    · refine ex_al oq_X5_readGate_24 gL302_0 ?_
      refine ex_gf oq_X5_readGate_25 hT (k := 50) (d := 5) rfl rfl (ri_ref (k := 50) (k' := 51) (d := 5) (f := 0) hT rfl rfl rfl (by decide) (ri_uniq (by decide +kernel))) ?_
      refine ex_cv oq_X5_readGate_28 (by decide) hT (k := 51) (d := 6) (as := []) (stk := []) rfl rfl rfl rfl rfl rfl ⟨rfl, rfl⟩ (R := fun o => ∃ hb : cv_H, o = (none, hb) ∧ cw_T G hb ∧ cw_Fr cw_Ds cw_sh kk_X6_step.2.2.2.2.2.1 h0 hb ∧ zCs t n (.inr (zx t n p)) hb) (ct_stepC (t := t) (n := n) (p := p) (fun i => by rw [ht, ← hA _ Fh0]) (fun i hi => by rw [hB _ Fh0]; exact hwd i hi) hn9 hT hS (fun hb b1 b2 b3 => ⟨hb, rfl, b1, b2, b3⟩)) (fun o ho => ?_)
      obtain ⟨h306, rfl, Th306, Ch306, Sh306⟩ := ho
      show cw_X _ _ _ _ _ [] h306
      have Fh306 : cw_Fr cw_Ds cw_sh kk_X5_readGate.2.2.2.2.2.1 h0 h306 := cw_Fr_tr Fh0 (cw_Fr_mono (by decide +kernel) Ch306)
      have Wh306 := zOK_fr Ch306 (by decide +kernel) hOK
      obtain ⟨pnh306, yah306, ybh306, ych306, ydh306, yfh306⟩ := zCs_at Sh306
      obtain ⟨kch306, ykh306⟩ : ∃ k, ri_at h306 51 4 = k := ⟨_, rfl⟩
      obtain ⟨vch306, yvh306⟩ : ∃ k, ri_at h306 51 6 = k := ⟨_, rfl⟩
      rw [ykh306, yvh306] at ydh306
      replace ydh306 := zhd_i ydh306
      have zlh306 := zx_le (t := t) (n := n) (p := (zx t n p)) (by omega)
      refine ex_al oq_X5_readGate_31 gL302_0 ?_
      refine ex_gf oq_X5_readGate_32 Th306 (k := 50) (d := 5) rfl rfl ((hPL _ Fh306).1) ?_
      refine ex_gf oq_X5_readGate_35 Th306 (k := b) (d := 4) hb4 rfl ((show cw_at h306 b 7 = some (cv_r (b + 6)) from (hPL _ Fh306).2.1 7 (by decide))) ?_
      refine ex_il oq_X5_readGate_38 gL302_1 ?_
      refine ex_aa oq_X5_readGate_39 Th306 (k := (b + 6)) (d := 33) (j := l.length) hkb6 rfl (by omega) (by omega) (fun k308 ak308 sk308 => ?_)
      have ek308 : K = k308 := by have := ((hPL _ Fh306).2.2 l.length (by omega)).symm.trans ak308; rw [← hKe] at this; cases this; rfl
      subst ek308
      refine ex_asA oq_X5_readGate_40 (fun L309 gL309_2 kL309 => ?_)
      have gL309_1 : cv_get L309 1 = some (cv_i x301) := kL309 1 _ (by decide) (fun _ => rfl) gL302_1
      have gL309_0 : cv_get L309 0 = some (cv_r 50) := kL309 0 _ (by decide) (fun q => absurd q (by decide)) gL302_0
      refine ex_al oq_X5_readGate_41 gL309_0 ?_
      refine ex_gf oq_X5_readGate_42 Th306 (k := 50) (d := 5) rfl rfl ((hPL _ Fh306).1) ?_
      refine ex_gf oq_X5_readGate_45 Th306 (k := b) (d := 4) hb4 rfl ((show cw_at h306 b 8 = some (cv_r (b + 7)) from (hPL _ Fh306).2.1 8 (by decide))) ?_
      refine ex_il oq_X5_readGate_48 gL309_1 ?_
      refine ex_al oq_X5_readGate_49 gL309_0 ?_
      refine ex_al oq_X5_readGate_50 gL309_0 ?_
      refine ex_gf oq_X5_readGate_51 Th306 (k := 50) (d := 5) rfl rfl ((hPL _ Fh306).1) ?_
      refine ex_gf oq_X5_readGate_54 Th306 (k := b) (d := 4) hb4 rfl ((show cw_at h306 b 8 = some (cv_r (b + 7)) from (hPL _ Fh306).2.1 8 (by decide))) ?_
      refine ex_il oq_X5_readGate_57 gL309_1 ?_
      have hlh306 : zNm h306 (b + 7) 0 l := zNm_eq hl (fun i => (ri_frr Ch306 (k := (b + 7)) (d := 34) hkb7 rfl (by decide +kernel)))
      refine ex_cv oq_X5_readGate_58 (by decide) Th306 (k := 50) (d := 5) (as := [cv_r (b + 7), cv_i x301]) (stk := [cv_i x301, cv_r (b + 7)]) rfl rfl rfl rfl rfl rfl ⟨rfl, rfl⟩ (R := fun o => ∃ (x : Int32) (hb : cv_H), o = (some (cv_i x), hb) ∧ cw_T G hb ∧ cw_Fr cw_Ds cw_sh kk_X5_readNewName.2.2.2.2.2.1 h306 hb ∧ zCr t n hb x (zm t n l (zx t n p))) (ct_nameSG (t := t) (n := n) (l := l) hb (fun i => by rw [ht, ← hA _ Fh306]) (fun i hi => by rw [hB _ Fh306]; exact hwd i hi) hn9 Th306 (by omega) (by omega) hlh306 Sh306 (fun x hb b1 b2 b3 => ⟨x, hb, rfl, b1, b2, b3⟩)) (fun o ho => ?_)
      obtain ⟨x310, h311, rfl, Th311, Ch311, dx310⟩ := ho
      show cw_X _ _ _ _ _ [cv_i x310, cv_i x301, cv_r (b + 7)] h311
      rw [E1] at dx310
      obtain ⟨wx310, Sh311⟩ := zCr_r dx310
      clear dx310
      have Fh311 : cw_Fr cw_Ds cw_sh kk_X5_readGate.2.2.2.2.2.1 h0 h311 := cw_Fr_tr Fh306 (cw_Fr_mono (by decide +kernel) Ch311)
      have Wh311 := zOK_fr Ch311 (by decide +kernel) Wh306
      clear Wh306
      clear yah306 ybh306 ych306 ykh306 yvh306 yfh306
      obtain ⟨pnh311, yah311, ybh311, ych311, ydh311, yfh311⟩ := zCs_at Sh311
      obtain ⟨kch311, ykh311⟩ : ∃ k, ri_at h311 51 4 = k := ⟨_, rfl⟩
      obtain ⟨vch311, yvh311⟩ : ∃ k, ri_at h311 51 6 = k := ⟨_, rfl⟩
      rw [ykh311, yvh311] at ydh311
      replace ydh311 := zhd_i ydh311
      have zlh311 := zx_le (t := t) (n := n) (p := p1) (by omega)
      refine ex_iw1 oq_X5_readGate_61 Th311 (k := (b + 7)) (d := 34) (j := l.length) hkb7 rfl (by omega) (by omega) ⟨(cw_i32 _).1, (cw_i32 _).2⟩ (fun h312 Th312 wh312 => ?_)
      have Fh312 : cw_Fr cw_Ds cw_sh kk_X5_readGate.2.2.2.2.2.1 h0 h312 := cw_Fr_tr Fh311 (cw_Fr_wrr wh312 (k := (b + 7)) (d := 34) hkb7 rfl (by decide +kernel))
      have Sh312 := zCs_wr (d := 34) (k := (b + 7)) wh312 hkb7 Sh311 (.inl ⟨by decide, by decide⟩)
      have Wh312 := zOK_d (d := 34) (k := (b + 7)) wh312 hkb7 (by decide) Wh311
      clear Wh311
      refine ex_al oq_X5_readGate_62 gL309_2 ?_
      refine ex_al oq_X5_readGate_63 gL309_0 ?_
      refine ex_bi oq_X5_readGate_64 (m := 24) (by decide) (fun x313 hx313 => ?_)
      refine ex_si oq_X5_readGate_66 (m := 144) (by decide) (fun x314 hx314 => ?_)
      refine ex_cv oq_X5_readGate_69 (by decide) Th312 (k := 50) (d := 5) (as := [cv_i x313, cv_i x314]) (stk := [cv_r K]) rfl rfl rfl rfl rfl rfl ⟨rfl, rfl⟩ (R := fun o => ∃ (x : Int32) (hb : cv_H), o = (some (cv_i x), hb) ∧ cw_T G hb ∧ cw_Fr cw_Ds cw_sh kk_X5_readNumber_1.2.2.2.2.2.1 h312 hb ∧ zCr t n hb x (zn t n x313.toInt x314.toInt p1)) (ct_readNumber (t := t) (n := n) (fun i => by rw [ht, ← hA _ Fh312]) (fun i hi => by rw [hB _ Fh312]; exact hwd i hi) hn9 Th312 Sh312 x313 x314 (by omega) (by omega) (fun x hb b1 b2 b3 => ⟨x, hb, rfl, b1, b2, b3⟩)) (fun o ho => ?_)
      obtain ⟨x315, h316, rfl, Th316, Ch316, dx315⟩ := ho
      show cw_X _ _ _ _ _ [cv_i x315, cv_r K] h316
      rw [hx313, hx314] at dx315
      rw [E2] at dx315
      obtain ⟨wx315, Sh316⟩ := zCr_r dx315
      clear dx315
      have Fh316 : cw_Fr cw_Ds cw_sh kk_X5_readGate.2.2.2.2.2.1 h0 h316 := cw_Fr_tr Fh312 (cw_Fr_mono (by decide +kernel) Ch316)
      have Wh316 := zOK_fr Ch316 (by decide +kernel) Wh312
      clear Wh312
      clear yah311 ybh311 ych311 ykh311 yvh311 yfh311
      obtain ⟨pnh316, yah316, ybh316, ych316, ydh316, yfh316⟩ := zCs_at Sh316
      obtain ⟨kch316, ykh316⟩ : ∃ k, ri_at h316 51 4 = k := ⟨_, rfl⟩
      obtain ⟨vch316, yvh316⟩ : ∃ k, ri_at h316 51 6 = k := ⟨_, rfl⟩
      rw [ykh316, yvh316] at ydh316
      replace ydh316 := zhd_i ydh316
      have zlh316 := zx_le (t := t) (n := n) (p := p2) (by omega)
      refine ex_pfi oq_X5_readGate_72 Th316 (k := K) (d := 7) hK7 rfl rfl (cw_i32 _).1 (cw_i32 _).2 (fun h317 Th317 wh317 => ?_)
      have Fh317 : cw_Fr cw_Ds cw_sh kk_X5_readGate.2.2.2.2.2.1 h0 h317 := cw_Fr_tr Fh316 (cw_Fr_wrf wh317 (k := K) (d := 7) hK7 rfl (by decide +kernel))
      have Sh317 := zCs_wr (d := 7) (k := K) wh317 hK7 Sh316 (.inl ⟨by decide, by decide⟩)
      have Wh317 := zOK_K wh317 hK7 Wh316
      clear Wh316
      refine ex_al oq_X5_readGate_75 gL309_2 ?_
      refine ex_al oq_X5_readGate_76 gL309_0 ?_
      refine ex_bi oq_X5_readGate_77 (m := 24) (by decide) (fun x318 hx318 => ?_)
      refine ex_bi oq_X5_readGate_79 (m := 72) (by decide) (fun x319 hx319 => ?_)
      refine ex_cv oq_X5_readGate_81 (by decide) Th317 (k := 50) (d := 5) (as := [cv_i x318, cv_i x319]) (stk := [cv_r K]) rfl rfl rfl rfl rfl rfl ⟨rfl, rfl⟩ (R := fun o => ∃ (x : Int32) (hb : cv_H), o = (some (cv_i x), hb) ∧ cw_T G hb ∧ cw_Fr cw_Ds cw_sh kk_X5_readNumber_1.2.2.2.2.2.1 h317 hb ∧ zCr t n hb x (zn t n x318.toInt x319.toInt p2)) (ct_readNumber (t := t) (n := n) (fun i => by rw [ht, ← hA _ Fh317]) (fun i hi => by rw [hB _ Fh317]; exact hwd i hi) hn9 Th317 Sh317 x318 x319 (by omega) (by omega) (fun x hb b1 b2 b3 => ⟨x, hb, rfl, b1, b2, b3⟩)) (fun o ho => ?_)
      obtain ⟨x320, h321, rfl, Th321, Ch321, dx320⟩ := ho
      show cw_X _ _ _ _ _ [cv_i x320, cv_r K] h321
      rw [hx318, hx319] at dx320
      rw [E3] at dx320
      obtain ⟨wx320, Sh321⟩ := zCr_r dx320
      clear dx320
      have Fh321 : cw_Fr cw_Ds cw_sh kk_X5_readGate.2.2.2.2.2.1 h0 h321 := cw_Fr_tr Fh317 (cw_Fr_mono (by decide +kernel) Ch321)
      have Wh321 := zOK_fr Ch321 (by decide +kernel) Wh317
      clear Wh317
      clear yah316 ybh316 ych316 ykh316 yvh316 yfh316
      obtain ⟨pnh321, yah321, ybh321, ych321, ydh321, yfh321⟩ := zCs_at Sh321
      obtain ⟨kch321, ykh321⟩ : ∃ k, ri_at h321 51 4 = k := ⟨_, rfl⟩
      obtain ⟨vch321, yvh321⟩ : ∃ k, ri_at h321 51 6 = k := ⟨_, rfl⟩
      rw [ykh321, yvh321] at ydh321
      replace ydh321 := zhd_i ydh321
      have zlh321 := zx_le (t := t) (n := n) (p := p3) (by omega)
      have n3 := zn_rg E3
      refine ex_cv oq_X5_readGate_84 (by decide) Th321 (k := K) (d := 7) (as := [cv_i x320]) (stk := []) hK7 rfl rfl rfl rfl rfl ⟨rfl, rfl⟩ (R := fun o => ∃ hb : cv_H, o = (none, hb) ∧ cw_T G hb ∧ cw_Fr cw_Ds cw_sh kk_X7_setHeight.2.2.2.2.2.1 h321 hb ∧ zOK K h321 hb ∧ ri_at hb K 1 = x320.toInt ∧ ri_at hb K 3 = 6 ∧ ri_at hb K 4 = x320.toInt - 6) (ct_heightD Th321 hK7 (by omega) (by omega) (fun hb b1 b2 b0 b3 b4 b5 => ⟨hb, rfl, b1, b2, b0, b3, b4, b5⟩)) (fun o ho => ?_)
      obtain ⟨h322, rfl, Th322, Ch322, oh322, y1, y3, y4⟩ := ho
      show cw_X _ _ _ _ _ [] h322
      have Fh322 : cw_Fr cw_Ds cw_sh kk_X5_readGate.2.2.2.2.2.1 h0 h322 := cw_Fr_tr Fh321 (cw_Fr_mono (by decide +kernel) Ch322)
      have Wh322 := zOK_tr Wh321 oh322
      clear Wh321
      have Sh322 := zCs_fr Ch322 (by decide +kernel) Sh321
      refine ex_al oq_X5_readGate_87 gL309_2 ?_
      refine ex_al oq_X5_readGate_88 gL309_0 ?_
      refine ex_bi oq_X5_readGate_89 (m := 20) (by decide) (fun x323 hx323 => ?_)
      refine ex_si oq_X5_readGate_91 (m := 400) (by decide) (fun x324 hx324 => ?_)
      refine ex_cv oq_X5_readGate_94 (by decide) Th322 (k := 50) (d := 5) (as := [cv_i x323, cv_i x324]) (stk := [cv_r K]) rfl rfl rfl rfl rfl rfl ⟨rfl, rfl⟩ (R := fun o => ∃ (x : Int32) (hb : cv_H), o = (some (cv_i x), hb) ∧ cw_T G hb ∧ cw_Fr cw_Ds cw_sh kk_X5_readNumber_1.2.2.2.2.2.1 h322 hb ∧ zCr t n hb x (zn t n x323.toInt x324.toInt p3)) (ct_readNumber (t := t) (n := n) (fun i => by rw [ht, ← hA _ Fh322]) (fun i hi => by rw [hB _ Fh322]; exact hwd i hi) hn9 Th322 Sh322 x323 x324 (by omega) (by omega) (fun x hb b1 b2 b3 => ⟨x, hb, rfl, b1, b2, b3⟩)) (fun o ho => ?_)
      obtain ⟨x325, h326, rfl, Th326, Ch326, dx325⟩ := ho
      show cw_X _ _ _ _ _ [cv_i x325, cv_r K] h326
      rw [hx323, hx324] at dx325
      rw [E4] at dx325
      obtain ⟨wx325, Sh326⟩ := zCr_r dx325
      clear dx325
      have Fh326 : cw_Fr cw_Ds cw_sh kk_X5_readGate.2.2.2.2.2.1 h0 h326 := cw_Fr_tr Fh322 (cw_Fr_mono (by decide +kernel) Ch326)
      have Wh326 := zOK_fr Ch326 (by decide +kernel) Wh322
      clear Wh322
      clear yah321 ybh321 ych321 ykh321 yvh321 yfh321
      obtain ⟨pnh326, yah326, ybh326, ych326, ydh326, yfh326⟩ := zCs_at Sh326
      obtain ⟨kch326, ykh326⟩ : ∃ k, ri_at h326 51 4 = k := ⟨_, rfl⟩
      obtain ⟨vch326, yvh326⟩ : ∃ k, ri_at h326 51 6 = k := ⟨_, rfl⟩
      rw [ykh326, yvh326] at ydh326
      replace ydh326 := zhd_i ydh326
      have zlh326 := zx_le (t := t) (n := n) (p := p4) (by omega)
      refine ex_pfi oq_X5_readGate_97 Th326 (k := K) (d := 7) hK7 rfl rfl (cw_i32 _).1 (cw_i32 _).2 (fun h327 Th327 wh327 => ?_)
      have Fh327 : cw_Fr cw_Ds cw_sh kk_X5_readGate.2.2.2.2.2.1 h0 h327 := cw_Fr_tr Fh326 (cw_Fr_wrf wh327 (k := K) (d := 7) hK7 rfl (by decide +kernel))
      have Sh327 := zCs_wr (d := 7) (k := K) wh327 hK7 Sh326 (.inl ⟨by decide, by decide⟩)
      have Wh327 := zOK_K wh327 hK7 Wh326
      clear Wh326
      refine ex_ic oq_X5_readGate_100 (m := 0) (by decide) (fun x328 hx328 => ?_)
      refine ex_isA oq_X5_readGate_101 (fun L329 gL329_3 kL329 => ?_)
      have gL329_2 : cv_get L329 2 = some (cv_r K) := kL329 2 _ (by decide) (fun _ => rfl) gL309_2
      have gL329_1 : cv_get L329 1 = some (cv_i x301) := kL329 1 _ (by decide) (fun q => absurd q (by decide)) gL309_1
      have gL329_0 : cv_get L329 0 = some (cv_r 50) := kL329 0 _ (by decide) (fun q => absurd q (by decide)) gL309_0
      have hDx : zKD h327 K (zgB a hh w) := ⟨fun j hj => match j, hj with | 0, _ => ((((((ri_ne wh327 (.inr (by decide))).trans ((ri_frf Ch326 (k := K) (d := 7) hK7 rfl (by decide +kernel)).trans ((ri_frf Ch322 (k := K) (d := 7) hK7 rfl (by decide +kernel)).trans (ri_frf Ch321 (k := K) (d := 7) hK7 rfl (by decide +kernel)))))).trans (ri_self wh317))).trans (show x315.toInt = a from by omega)).trans (zgB_l (a := a) (hh := hh) (w := w) (j := 0) (by decide)).symm | 1, _ => ((((ri_ne wh327 (.inr (by decide))).trans (ri_frf Ch326 (k := K) (d := 7) hK7 rfl (by decide +kernel)))).trans (y1.trans (by show _ = ([a, hh, w, 6, hh - 6, 0, 0, 36, 8, 0, 1000, 1000, 0, 3000] : List Int).getD 1 0; show _ = hh; omega))).trans (zgB_l (a := a) (hh := hh) (w := w) (j := 1) (by decide)).symm | 2, _ => ((((rfl).trans (ri_self wh327))).trans (show x325.toInt = w from by omega)).trans (zgB_l (a := a) (hh := hh) (w := w) (j := 2) (by decide)).symm | 3, _ => ((((ri_ne wh327 (.inr (by decide))).trans (ri_frf Ch326 (k := K) (d := 7) hK7 rfl (by decide +kernel)))).trans (y3.trans (by show _ = ([a, hh, w, 6, hh - 6, 0, 0, 36, 8, 0, 1000, 1000, 0, 3000] : List Int).getD 3 0; show _ = (6 : Int); omega))).trans (zgB_l (a := a) (hh := hh) (w := w) (j := 3) (by decide)).symm | 4, _ => ((((ri_ne wh327 (.inr (by decide))).trans (ri_frf Ch326 (k := K) (d := 7) hK7 rfl (by decide +kernel)))).trans (y4.trans (by show _ = ([a, hh, w, 6, hh - 6, 0, 0, 36, 8, 0, 1000, 1000, 0, 3000] : List Int).getD 4 0; show _ = hh - 6; omega))).trans (zgB_l (a := a) (hh := hh) (w := w) (j := 4) (by decide)).symm | 5, _ => ((((ri_ne wh327 (.inr (by decide))).trans ((ri_frf Ch326 (k := K) (d := 7) hK7 rfl (by decide +kernel)).trans ((ri_frf Ch322 (k := K) (d := 7) hK7 rfl (by decide +kernel)).trans ((ri_frf Ch321 (k := K) (d := 7) hK7 rfl (by decide +kernel)).trans ((ri_ne wh317 (.inr (by decide))).trans ((ri_frf Ch316 (k := K) (d := 7) hK7 rfl (by decide +kernel)).trans ((ri_ne wh312 (.inl (cw_kne (k := K) (d := 7) (k' := (b + 7)) (d' := 34) hK7 hkb7 (by decide)))).trans ((ri_frf Ch311 (k := K) (d := 7) hK7 rfl (by decide +kernel)).trans (ri_frf Ch306 (k := K) (d := 7) hK7 rfl (by decide +kernel))))))))))).trans (hdf 5 (by decide) (by decide))).trans (zgB_l (a := a) (hh := hh) (w := w) (j := 5) (by decide)).symm | 6, _ => ((((ri_ne wh327 (.inr (by decide))).trans ((ri_frf Ch326 (k := K) (d := 7) hK7 rfl (by decide +kernel)).trans ((ri_frf Ch322 (k := K) (d := 7) hK7 rfl (by decide +kernel)).trans ((ri_frf Ch321 (k := K) (d := 7) hK7 rfl (by decide +kernel)).trans ((ri_ne wh317 (.inr (by decide))).trans ((ri_frf Ch316 (k := K) (d := 7) hK7 rfl (by decide +kernel)).trans ((ri_ne wh312 (.inl (cw_kne (k := K) (d := 7) (k' := (b + 7)) (d' := 34) hK7 hkb7 (by decide)))).trans ((ri_frf Ch311 (k := K) (d := 7) hK7 rfl (by decide +kernel)).trans (ri_frf Ch306 (k := K) (d := 7) hK7 rfl (by decide +kernel))))))))))).trans (hdf 6 (by decide) (by decide))).trans (zgB_l (a := a) (hh := hh) (w := w) (j := 6) (by decide)).symm | 7, _ => ((((ri_ne wh327 (.inr (by decide))).trans ((ri_frf Ch326 (k := K) (d := 7) hK7 rfl (by decide +kernel)).trans ((ri_frf Ch322 (k := K) (d := 7) hK7 rfl (by decide +kernel)).trans ((ri_frf Ch321 (k := K) (d := 7) hK7 rfl (by decide +kernel)).trans ((ri_ne wh317 (.inr (by decide))).trans ((ri_frf Ch316 (k := K) (d := 7) hK7 rfl (by decide +kernel)).trans ((ri_ne wh312 (.inl (cw_kne (k := K) (d := 7) (k' := (b + 7)) (d' := 34) hK7 hkb7 (by decide)))).trans ((ri_frf Ch311 (k := K) (d := 7) hK7 rfl (by decide +kernel)).trans (ri_frf Ch306 (k := K) (d := 7) hK7 rfl (by decide +kernel))))))))))).trans (hdf 7 (by decide) (by decide))).trans (zgB_l (a := a) (hh := hh) (w := w) (j := 7) (by decide)).symm | 8, _ => ((((ri_ne wh327 (.inr (by decide))).trans ((ri_frf Ch326 (k := K) (d := 7) hK7 rfl (by decide +kernel)).trans ((ri_frf Ch322 (k := K) (d := 7) hK7 rfl (by decide +kernel)).trans ((ri_frf Ch321 (k := K) (d := 7) hK7 rfl (by decide +kernel)).trans ((ri_ne wh317 (.inr (by decide))).trans ((ri_frf Ch316 (k := K) (d := 7) hK7 rfl (by decide +kernel)).trans ((ri_ne wh312 (.inl (cw_kne (k := K) (d := 7) (k' := (b + 7)) (d' := 34) hK7 hkb7 (by decide)))).trans ((ri_frf Ch311 (k := K) (d := 7) hK7 rfl (by decide +kernel)).trans (ri_frf Ch306 (k := K) (d := 7) hK7 rfl (by decide +kernel))))))))))).trans (hdf 8 (by decide) (by decide))).trans (zgB_l (a := a) (hh := hh) (w := w) (j := 8) (by decide)).symm | 9, _ => ((((ri_ne wh327 (.inr (by decide))).trans ((ri_frf Ch326 (k := K) (d := 7) hK7 rfl (by decide +kernel)).trans ((ri_frf Ch322 (k := K) (d := 7) hK7 rfl (by decide +kernel)).trans ((ri_frf Ch321 (k := K) (d := 7) hK7 rfl (by decide +kernel)).trans ((ri_ne wh317 (.inr (by decide))).trans ((ri_frf Ch316 (k := K) (d := 7) hK7 rfl (by decide +kernel)).trans ((ri_ne wh312 (.inl (cw_kne (k := K) (d := 7) (k' := (b + 7)) (d' := 34) hK7 hkb7 (by decide)))).trans ((ri_frf Ch311 (k := K) (d := 7) hK7 rfl (by decide +kernel)).trans (ri_frf Ch306 (k := K) (d := 7) hK7 rfl (by decide +kernel))))))))))).trans (hdf 9 (by decide) (by decide))).trans (zgB_l (a := a) (hh := hh) (w := w) (j := 9) (by decide)).symm | 10, _ => ((((ri_ne wh327 (.inr (by decide))).trans ((ri_frf Ch326 (k := K) (d := 7) hK7 rfl (by decide +kernel)).trans ((ri_frf Ch322 (k := K) (d := 7) hK7 rfl (by decide +kernel)).trans ((ri_frf Ch321 (k := K) (d := 7) hK7 rfl (by decide +kernel)).trans ((ri_ne wh317 (.inr (by decide))).trans ((ri_frf Ch316 (k := K) (d := 7) hK7 rfl (by decide +kernel)).trans ((ri_ne wh312 (.inl (cw_kne (k := K) (d := 7) (k' := (b + 7)) (d' := 34) hK7 hkb7 (by decide)))).trans ((ri_frf Ch311 (k := K) (d := 7) hK7 rfl (by decide +kernel)).trans (ri_frf Ch306 (k := K) (d := 7) hK7 rfl (by decide +kernel))))))))))).trans (hdf 10 (by decide) (by decide))).trans (zgB_l (a := a) (hh := hh) (w := w) (j := 10) (by decide)).symm | 11, _ => ((((ri_ne wh327 (.inr (by decide))).trans ((ri_frf Ch326 (k := K) (d := 7) hK7 rfl (by decide +kernel)).trans ((ri_frf Ch322 (k := K) (d := 7) hK7 rfl (by decide +kernel)).trans ((ri_frf Ch321 (k := K) (d := 7) hK7 rfl (by decide +kernel)).trans ((ri_ne wh317 (.inr (by decide))).trans ((ri_frf Ch316 (k := K) (d := 7) hK7 rfl (by decide +kernel)).trans ((ri_ne wh312 (.inl (cw_kne (k := K) (d := 7) (k' := (b + 7)) (d' := 34) hK7 hkb7 (by decide)))).trans ((ri_frf Ch311 (k := K) (d := 7) hK7 rfl (by decide +kernel)).trans (ri_frf Ch306 (k := K) (d := 7) hK7 rfl (by decide +kernel))))))))))).trans (hdf 11 (by decide) (by decide))).trans (zgB_l (a := a) (hh := hh) (w := w) (j := 11) (by decide)).symm | 12, _ => ((((ri_ne wh327 (.inr (by decide))).trans ((ri_frf Ch326 (k := K) (d := 7) hK7 rfl (by decide +kernel)).trans ((ri_frf Ch322 (k := K) (d := 7) hK7 rfl (by decide +kernel)).trans ((ri_frf Ch321 (k := K) (d := 7) hK7 rfl (by decide +kernel)).trans ((ri_ne wh317 (.inr (by decide))).trans ((ri_frf Ch316 (k := K) (d := 7) hK7 rfl (by decide +kernel)).trans ((ri_ne wh312 (.inl (cw_kne (k := K) (d := 7) (k' := (b + 7)) (d' := 34) hK7 hkb7 (by decide)))).trans ((ri_frf Ch311 (k := K) (d := 7) hK7 rfl (by decide +kernel)).trans (ri_frf Ch306 (k := K) (d := 7) hK7 rfl (by decide +kernel))))))))))).trans (hdf 12 (by decide) (by decide))).trans (zgB_l (a := a) (hh := hh) (w := w) (j := 12) (by decide)).symm | 13, _ => ((((ri_ne wh327 (.inr (by decide))).trans ((ri_frf Ch326 (k := K) (d := 7) hK7 rfl (by decide +kernel)).trans ((ri_frf Ch322 (k := K) (d := 7) hK7 rfl (by decide +kernel)).trans ((ri_frf Ch321 (k := K) (d := 7) hK7 rfl (by decide +kernel)).trans ((ri_ne wh317 (.inr (by decide))).trans ((ri_frf Ch316 (k := K) (d := 7) hK7 rfl (by decide +kernel)).trans ((ri_ne wh312 (.inl (cw_kne (k := K) (d := 7) (k' := (b + 7)) (d' := 34) hK7 hkb7 (by decide)))).trans ((ri_frf Ch311 (k := K) (d := 7) hK7 rfl (by decide +kernel)).trans (ri_frf Ch306 (k := K) (d := 7) hK7 rfl (by decide +kernel))))))))))).trans (hdf 13 (by decide) (by decide))).trans (zgB_l (a := a) (hh := hh) (w := w) (j := 13) (by decide)).symm | j + 14, hj => absurd hj (by omega), fun j hj => (((ri_ne wh327 (.inl (cw_kne (k := (K + 1)) (d := 44) (k' := K) (d' := 7) hK44 hK7 (by decide)))).trans ((ri_frr Ch326 (k := (K + 1)) (d := 44) hK44 rfl (by decide +kernel)).trans ((ri_frr Ch322 (k := (K + 1)) (d := 44) hK44 rfl (by decide +kernel)).trans ((ri_frr Ch321 (k := (K + 1)) (d := 44) hK44 rfl (by decide +kernel)).trans ((ri_ne wh317 (.inl (cw_kne (k := (K + 1)) (d := 44) (k' := K) (d' := 7) hK44 hK7 (by decide)))).trans ((ri_frr Ch316 (k := (K + 1)) (d := 44) hK44 rfl (by decide +kernel)).trans ((ri_ne wh312 (.inl (cw_kne (k := (K + 1)) (d := 44) (k' := (b + 7)) (d' := 34) hK44 hkb7 (by decide)))).trans ((ri_frr Ch311 (k := (K + 1)) (d := 44) hK44 rfl (by decide +kernel)).trans (ri_frr Ch306 (k := (K + 1)) (d := 44) hK44 rfl (by decide +kernel))))))))))).trans ((hdr j hj).trans (zgB_h (a := a) (hh := hh) (w := w) (j := 16 + j) (by omega)).symm)⟩
      exact gt_lpD ht hwd hn9 hb hpl hK7 hK44 hKr hcc hc6 hcl (N := x301) (l := l) (by omega) (by omega) (R := zgF t n hh cn 901 0 0 p4 (zgB a hh w)) (v0 := v0) (q0 := q0) hQ (by omega) 901 0 L329 x328 p4 0 0 _ h327 (by omega) Th327 Fh327 Wh327 Sh327 E5 rfl hDx ((((ri_ne wh327 (.inr (by decide))).trans ((ri_frf Ch326 (k := K) (d := 7) hK7 rfl (by decide +kernel)).trans ((ri_frf Ch322 (k := K) (d := 7) hK7 rfl (by decide +kernel)).trans ((ri_frf Ch321 (k := K) (d := 7) hK7 rfl (by decide +kernel)).trans ((ri_ne wh317 (.inr (by decide))).trans ((ri_frf Ch316 (k := K) (d := 7) hK7 rfl (by decide +kernel)).trans ((ri_ne wh312 (.inl (cw_kne (k := K) (d := 7) (k' := (b + 7)) (d' := 34) hK7 hkb7 (by decide)))).trans ((ri_frf Ch311 (k := K) (d := 7) hK7 rfl (by decide +kernel)).trans (ri_frf Ch306 (k := K) (d := 7) hK7 rfl (by decide +kernel))))))))))).trans hd14) (by decide) ((((ri_ne wh327 (.inr (by decide))).trans (ri_frf Ch326 (k := K) (d := 7) hK7 rfl (by decide +kernel)))).trans (y1.trans (by omega))) (by omega) ((((ri_ne wh327 (.inr (by decide))).trans ((ri_frf Ch326 (k := K) (d := 7) hK7 rfl (by decide +kernel)).trans ((ri_frf Ch322 (k := K) (d := 7) hK7 rfl (by decide +kernel)).trans ((ri_frf Ch321 (k := K) (d := 7) hK7 rfl (by decide +kernel)).trans ((ri_ne wh317 (.inr (by decide))).trans ((ri_frf Ch316 (k := K) (d := 7) hK7 rfl (by decide +kernel)).trans ((ri_ne wh312 (.inl (cw_kne (k := K) (d := 7) (k' := (b + 7)) (d' := 34) hK7 hkb7 (by decide)))).trans ((ri_frf Ch311 (k := K) (d := 7) hK7 rfl (by decide +kernel)).trans (ri_frf Ch306 (k := K) (d := 7) hK7 rfl (by decide +kernel))))))))))).trans (hd15.trans (by decide))) (by decide) (by omega) (by omega) gL329_0 gL329_1 gL329_2 gL329_3
    · exfalso; omega
end TZ
