/-! ===== a gate's numbers: what both sides work out of them ===== -/
theorem zmb {a b A B : Int} (ha : 0 ≤ a ∧ a ≤ A) (hb : 0 ≤ b ∧ b ≤ B) : 0 ≤ a * b ∧ a * b ≤ A * B :=
  ⟨Int.mul_nonneg ha.1 hb.1, Int.le_trans (Int.mul_le_mul_of_nonneg_right ha.2 hb.1) (Int.mul_le_mul_of_nonneg_left hb.2 (Int.le_trans ha.1 ha.2))⟩
theorem zdb {a d A : Int} (ha : 0 ≤ a ∧ a ≤ A) (hd : 1 ≤ d) : 0 ≤ a / d ∧ a / d ≤ A :=
  ⟨Int.ediv_nonneg ha.1 (by omega), Int.le_trans (Int.ediv_le_self d ha.1) ha.2⟩
def gTR (T : Nat → Int) : Prop := (24 ≤ T 0 ∧ T 0 ≤ 144) ∧ (24 ≤ T 1 ∧ T 1 ≤ 72) ∧ (20 ≤ T 2 ∧ T 2 ≤ 400) ∧ (0 ≤ T 3 ∧ T 3 < T 4 ∧ T 4 ≤ T 1) ∧ (-30 ≤ T 5 ∧ T 5 ≤ 30) ∧ (-30 ≤ T 6 ∧ T 6 ≤ 30) ∧ (12 ≤ T 7 ∧ T 7 ≤ 60) ∧ (3 ≤ T 8 ∧ T 8 ≤ 14) ∧ (0 ≤ T 9 ∧ T 9 ≤ 2) ∧ (0 ≤ T 10 ∧ T 10 ≤ 9999) ∧ (0 ≤ T 11 ∧ T 11 ≤ 9999) ∧ (0 ≤ T 12 ∧ T 12 ≤ 200) ∧ (0 ≤ T 13 ∧ T 13 ≤ 9999) ∧ (0 ≤ T 14 ∧ T 14 < 64)
def gGR (γ : Nat → Int) : Prop := (0 ≤ γ 1 ∧ γ 1 ≤ 1000000) ∧ (0 ≤ γ 2 ∧ γ 2 ≤ 1000000) ∧ (0 ≤ γ 3 ∧ γ 3 ≤ 1000000) ∧ (-300000000 ≤ γ 4 ∧ γ 4 ≤ 300000000) ∧ (0 ≤ γ 5 ∧ γ 5 ≤ 1000) ∧ (0 ≤ γ 6 ∧ γ 6 ≤ 2) ∧ (0 ≤ γ 7 ∧ γ 7 ≤ 100) ∧ (0 ≤ γ 8 ∧ γ 8 ≤ 10000) ∧ (0 ≤ γ 9 ∧ γ 9 ≤ 300) ∧ (0 ≤ γ 10 ∧ γ 10 < 64) ∧ (0 ≤ γ 11 ∧ γ 11 < 64) ∧ (0 ≤ γ 12 ∧ γ 12 ≤ 6000) ∧ (0 ≤ γ 13 ∧ γ 13 ≤ 6000) ∧ (0 ≤ γ 14 ∧ γ 14 ≤ 6000) ∧ (-30 ≤ γ 15 ∧ γ 15 ≤ 30) ∧ (-30 ≤ γ 16 ∧ γ 16 ≤ 30)
def gPull (T : Nat → Int) (child wheel : Int) : Int := (((T 0) * (T 2 + 2 * child)) / (2 * (T 4 - T 3))) * (100 - wheel) / 100
def gLean (T : Nat → Int) (a : Int) : Int := (a * T 0) / T 1
def gHook (T : Nat → Int) (c : Int) : Int := (c * T 0) / (T 4 - T 3)
def gDrop (T : Nat → Int) (a b c d : Int) : Int := gLean T a + b + gHook T c - d
def zTV (h : cv_H) (U : Nat) (T : Nat → Int) : Prop := ∀ j, j < 16 → ri_at h U j = T j
def zGV (h : cv_H) (K : Nat) (γ : Nat → Int) : Prop := ∀ j, 1 ≤ j ∧ j ≤ 16 → ri_at h K j = γ j
theorem gLean_b {T : Nat → Int} {a : Int} (rT : gTR T) (ha : 0 ≤ a ∧ a ≤ 1000000) : 0 ≤ gLean T a ∧ gLean T a ≤ 144000000 := by
  have m := zmb ha (show 0 ≤ T 0 ∧ T 0 ≤ 144 from ⟨by have := rT.1; omega, rT.1.2⟩)
  exact zdb (A := 144000000) ⟨m.1, by omega⟩ (by have := rT.2.1; omega)
theorem gHook_b {T : Nat → Int} {a : Int} (rT : gTR T) (ha : 0 ≤ a ∧ a ≤ 1000000) : 0 ≤ gHook T a ∧ gHook T a ≤ 144000000 := by
  have m := zmb ha (show 0 ≤ T 0 ∧ T 0 ≤ 144 from ⟨by have := rT.1; omega, rT.1.2⟩)
  exact zdb (A := 144000000) ⟨m.1, by omega⟩ (by have := rT.2.2.2.1; omega)
theorem gDrop_b {T : Nat → Int} {a b c d : Int} (rT : gTR T) (ha : 0 ≤ a ∧ a ≤ 1000000) (hb : 0 ≤ b ∧ b ≤ 1000000) (hc : 0 ≤ c ∧ c ≤ 1000000) (hd : -300000000 ≤ d ∧ d ≤ 300000000) : -600000000 ≤ gDrop T a b c d ∧ gDrop T a b c d ≤ 600000000 := by
  have h1 := gLean_b rT ha
  have h2 := gHook_b rT hc
  unfold gDrop
  omega
theorem gPull_b {T : Nat → Int} {child wheel : Int} (rT : gTR T) (hc : 0 ≤ child ∧ child ≤ 300) (hw : 0 ≤ wheel ∧ wheel ≤ 100) : (0 ≤ T 0 * (T 2 + 2 * child) ∧ T 0 * (T 2 + 2 * child) ≤ 144000) ∧ (0 ≤ T 0 * (T 2 + 2 * child) / (2 * (T 4 - T 3)) ∧ T 0 * (T 2 + 2 * child) / (2 * (T 4 - T 3)) ≤ 144000) ∧ (0 ≤ T 0 * (T 2 + 2 * child) / (2 * (T 4 - T 3)) * (100 - wheel) ∧ T 0 * (T 2 + 2 * child) / (2 * (T 4 - T 3)) * (100 - wheel) ≤ 14400000) ∧ (0 ≤ gPull T child wheel ∧ gPull T child wheel ≤ 144000) := by
  have t0 := rT.1
  have t2 := rT.2.2.1
  have t3 := rT.2.2.2.1
  have m := zmb (show 0 ≤ T 0 ∧ T 0 ≤ 144 from ⟨by omega, t0.2⟩) (show 0 ≤ T 2 + 2 * child ∧ T 2 + 2 * child ≤ 1000 from ⟨by omega, by omega⟩)
  have d := zdb (A := 144000) ⟨m.1, by omega⟩ (show 1 ≤ 2 * (T 4 - T 3) by omega)
  have m2 := zmb d (show 0 ≤ 100 - wheel ∧ 100 - wheel ≤ 100 from ⟨by omega, by omega⟩)
  refine ⟨⟨m.1, by omega⟩, d, ⟨m2.1, by omega⟩, ?_⟩
  unfold gPull
  omega
section GN
variable {G : Int} {X : cv_X} {Q : cv_O → Prop} {h : cv_H}
theorem oq_X7_span_0 : cw_ho 88 0 (.aload_n 0) 1 0 0 0 := rfl
theorem oq_X7_span_1 : cw_ho 88 1 (.getfield 68) 3 7 4 0 := rfl
theorem oq_X7_span_4 : cw_ho 88 4 (.aload_n 0) 1 0 0 0 := rfl
theorem oq_X7_span_5 : cw_ho 88 5 (.getfield 65) 3 7 3 0 := rfl
theorem oq_X7_span_8 : cw_ho 88 8 (.isub) 1 0 0 0 := rfl
theorem oq_X7_span_9 : cw_ho 88 9 (.ireturn) 1 0 0 0 := rfl
theorem cg_span {U : Nat} (hT : cw_T G h) (hU : cw_sh[U]? = some 7) {T : Nat → Int} (tT : zTV h U T) (rT : gTR T) (hQ : ∀ x : Int32, x.toInt = T 4 - T 3 → Q (some (cv_i x), h)) : cw_X X 88 Q 0 (cv_ent 0 [cv_r U]) [] h := by
  obtain ⟨rT0, rT1, rT2, rT3, rT5, rT6, rT7, rT8, rT9, rT10, rT11, rT12, rT13, rT14⟩ := rT
  refine ex_al oq_X7_span_0 rfl ?_
  obtain ⟨x11, ax11, rx11, lx11, ux11⟩ := ri_fld (k := U) (d := 7) (f := 4) hT hU rfl rfl
  try dsimp only at lx11 ux11
  refine ex_gf oq_X7_span_1 hT (k := U) (d := 7) hU rfl ax11 ?_
  have rx11 := (rx11.symm.trans (tT 4 (by decide)) : x11.toInt = T 4)
  refine ex_al oq_X7_span_4 rfl ?_
  obtain ⟨x12, ax12, rx12, lx12, ux12⟩ := ri_fld (k := U) (d := 7) (f := 3) hT hU rfl rfl
  try dsimp only at lx12 ux12
  refine ex_gf oq_X7_span_5 hT (k := U) (d := 7) hU rfl ax12 ?_
  have rx12 := (rx12.symm.trans (tT 3 (by decide)) : x12.toInt = T 3)
  refine ex_sub oq_X7_span_8 (by omega) (fun x13 hx13 => ?_)
  exact ex_reti oq_X7_span_9 rfl (hQ x13 (by omega))
theorem oq_X1_pull_0 : cw_ho 17 0 (.aload_n 0) 1 0 0 0 := rfl
theorem oq_X1_pull_1 : cw_ho 17 1 (.getfield 9) 3 1 0 4 := rfl
theorem oq_X1_pull_4 : cw_ho 17 4 (.invokevirtual 86) 3 88 0 7 := rfl
theorem oq_X1_pull_7 : cw_ho 17 7 (.istore_n 1) 1 0 0 0 := rfl
theorem oq_X1_pull_8 : cw_ho 17 8 (.iload_n 1) 1 0 0 0 := rfl
theorem oq_X1_pull_9 : cw_ho 17 9 (.ifCond .gt 5) 3 0 0 0 := rfl
theorem oq_X1_pull_14 : cw_ho 17 14 (.aload_n 0) 1 0 0 0 := rfl
theorem oq_X1_pull_15 : cw_ho 17 15 (.getfield 9) 3 1 0 4 := rfl
theorem oq_X1_pull_18 : cw_ho 17 18 (.getfield 90) 3 7 0 0 := rfl
theorem oq_X1_pull_21 : cw_ho 17 21 (.aload_n 0) 1 0 0 0 := rfl
theorem oq_X1_pull_22 : cw_ho 17 22 (.getfield 9) 3 1 0 4 := rfl
theorem oq_X1_pull_25 : cw_ho 17 25 (.getfield 93) 3 7 2 0 := rfl
theorem oq_X1_pull_28 : cw_ho 17 28 (.iconst 2) 1 0 0 0 := rfl
theorem oq_X1_pull_29 : cw_ho 17 29 (.aload_n 0) 1 0 0 0 := rfl
theorem oq_X1_pull_30 : cw_ho 17 30 (.getfield 53) 3 1 9 0 := rfl
theorem oq_X1_pull_33 : cw_ho 17 33 (.imul) 1 0 0 0 := rfl
theorem oq_X1_pull_34 : cw_ho 17 34 (.iadd) 1 0 0 0 := rfl
theorem oq_X1_pull_35 : cw_ho 17 35 (.imul) 1 0 0 0 := rfl
theorem oq_X1_pull_36 : cw_ho 17 36 (.iconst 2) 1 0 0 0 := rfl
theorem oq_X1_pull_37 : cw_ho 17 37 (.iload_n 1) 1 0 0 0 := rfl
theorem oq_X1_pull_38 : cw_ho 17 38 (.imul) 1 0 0 0 := rfl
theorem oq_X1_pull_39 : cw_ho 17 39 (.idiv) 1 0 0 0 := rfl
theorem oq_X1_pull_40 : cw_ho 17 40 (.istore_n 2) 1 0 0 0 := rfl
theorem oq_X1_pull_41 : cw_ho 17 41 (.iload_n 2) 1 0 0 0 := rfl
theorem oq_X1_pull_42 : cw_ho 17 42 (.bipush 100) 2 0 0 0 := rfl
theorem oq_X1_pull_44 : cw_ho 17 44 (.aload_n 0) 1 0 0 0 := rfl
theorem oq_X1_pull_45 : cw_ho 17 45 (.getfield 44) 3 1 7 0 := rfl
theorem oq_X1_pull_48 : cw_ho 17 48 (.isub) 1 0 0 0 := rfl
theorem oq_X1_pull_49 : cw_ho 17 49 (.imul) 1 0 0 0 := rfl
theorem oq_X1_pull_50 : cw_ho 17 50 (.bipush 100) 2 0 0 0 := rfl
theorem oq_X1_pull_52 : cw_ho 17 52 (.idiv) 1 0 0 0 := rfl
theorem oq_X1_pull_53 : cw_ho 17 53 (.ireturn) 1 0 0 0 := rfl
theorem cg_pull (hT : cw_T G h) {K U : Nat} (hK : cw_sh[K]? = some 1) (hU : cw_sh[U]? = some 7) (hp : cw_at h K 0 = some (cv_r U)) {T γ : Nat → Int} (tT : zTV h U T) (tG : zGV h K γ) (rT : gTR T) (rG : gGR γ) (hQ : ∀ x : Int32, x.toInt = gPull T (γ 9) (γ 7) → Q (some (cv_i x), h)) : cw_X X 17 Q 0 (cv_ent 0 [cv_r K]) [] h := by
  have rT' := rT
  have rG' := rG
  unfold gPull at hQ
  obtain ⟨rT0, rT1, rT2, rT3, rT5, rT6, rT7, rT8, rT9, rT10, rT11, rT12, rT13, rT14⟩ := rT'
  obtain ⟨rG1, rG2, rG3, rG4, rG5, rG6, rG7, rG8, rG9, rG10, rG11, rG12, rG13, rG14, rG15, rG16⟩ := rG'
  refine ex_al oq_X1_pull_0 rfl ?_
  refine ex_gf oq_X1_pull_1 hT (k := K) (d := 1) hK rfl (hp) ?_
  refine ex_cv oq_X1_pull_4 (by decide) hT (k := U) (d := 7) (as := []) (stk := []) hU rfl rfl rfl rfl rfl ⟨rfl, rfl⟩ (R := fun o => ∃ x : Int32, o = (some (cv_i x), h) ∧ x.toInt = T 4 - T 3) (cg_span hT hU tT rT (fun x q => ⟨x, rfl, q⟩)) (fun o ho => ?_)
  obtain ⟨x11, rfl, hx11⟩ := ho
  show cw_X _ _ _ _ _ [cv_i x11] h
  refine ex_isA oq_X1_pull_7 (fun L12 gL12_1 kL12 => ?_)
  have gL12_0 : cv_get L12 0 = some (cv_r K) := kL12 0 _ (by decide) (fun _ => rfl) rfl
  refine ex_il oq_X1_pull_8 gL12_1 ?_
  refine ex_if0 oq_X1_pull_9 (t := 14) rfl rfl (fun (c13 : 0 < x11.toInt) => ?_) (fun (c13 : ¬ (0 < x11.toInt)) => ?_)
  · refine ex_al oq_X1_pull_14 gL12_0 ?_
    refine ex_gf oq_X1_pull_15 hT (k := K) (d := 1) hK rfl (hp) ?_
    obtain ⟨x14, ax14, rx14, lx14, ux14⟩ := ri_fld (k := U) (d := 7) (f := 0) hT hU rfl rfl
    try dsimp only at lx14 ux14
    refine ex_gf oq_X1_pull_18 hT (k := U) (d := 7) hU rfl ax14 ?_
    clear lx14 ux14
    have rx14 := (rx14.symm.trans (tT 0 (by decide)) : x14.toInt = T 0)
    refine ex_al oq_X1_pull_21 gL12_0 ?_
    refine ex_gf oq_X1_pull_22 hT (k := K) (d := 1) hK rfl (hp) ?_
    obtain ⟨x15, ax15, rx15, lx15, ux15⟩ := ri_fld (k := U) (d := 7) (f := 2) hT hU rfl rfl
    try dsimp only at lx15 ux15
    refine ex_gf oq_X1_pull_25 hT (k := U) (d := 7) hU rfl ax15 ?_
    clear lx15 ux15
    have rx15 := (rx15.symm.trans (tT 2 (by decide)) : x15.toInt = T 2)
    refine ex_ic oq_X1_pull_28 (m := 2) (by decide) (fun x16 hx16 => ?_)
    refine ex_al oq_X1_pull_29 gL12_0 ?_
    obtain ⟨x17, ax17, rx17, lx17, ux17⟩ := ri_fld (k := K) (d := 1) (f := 9) hT hK rfl rfl
    try dsimp only at lx17 ux17
    refine ex_gf oq_X1_pull_30 hT (k := K) (d := 1) hK rfl ax17 ?_
    clear lx17 ux17
    have rx17 := (rx17.symm.trans (tG 9 (by decide)) : x17.toInt = γ 9)
    refine ex_mul oq_X1_pull_33 (m := 2 * x17.toInt) (by rw [hx16]) (by omega) (fun x18 hx18 => ?_)
    refine ex_add oq_X1_pull_34 (by omega) (fun x19 hx19 => ?_)
    have pb := gPull_b rT rG.2.2.2.2.2.2.2.2.1 rG.2.2.2.2.2.2.1
    refine ex_mul oq_X1_pull_35 (m := (T 0) * (T 2 + 2 * γ 9)) (by rw [show x14.toInt = T 0 from by omega, show x19.toInt = T 2 + 2 * γ 9 from by omega]) (by omega) (fun x20 hx20 => ?_)
    refine ex_ic oq_X1_pull_36 (m := 2) (by decide) (fun x21 hx21 => ?_)
    refine ex_il oq_X1_pull_37 gL12_1 ?_
    refine ex_mul oq_X1_pull_38 (m := 2 * x11.toInt) (by rw [hx21]) (by omega) (fun x22 hx22 => ?_)
    refine ex_div oq_X1_pull_39 (by omega) (by omega) (fun x23 hx23 => ?_)
    replace hx23 : x23.toInt = (T 0 * (T 2 + 2 * γ 9)) / (2 * (T 4 - T 3)) := by rw [hx23, show x20.toInt = T 0 * (T 2 + 2 * γ 9) from by omega, show x22.toInt = 2 * (T 4 - T 3) from by omega]
    refine ex_isA oq_X1_pull_40 (fun L24 gL24_2 kL24 => ?_)
    have gL24_1 : cv_get L24 1 = some (cv_i x11) := kL24 1 _ (by decide) (fun _ => rfl) gL12_1
    have gL24_0 : cv_get L24 0 = some (cv_r K) := kL24 0 _ (by decide) (fun q => absurd q (by decide)) gL12_0
    refine ex_il oq_X1_pull_41 gL24_2 ?_
    refine ex_bi oq_X1_pull_42 (m := 100) (by decide) (fun x25 hx25 => ?_)
    refine ex_al oq_X1_pull_44 gL24_0 ?_
    obtain ⟨x26, ax26, rx26, lx26, ux26⟩ := ri_fld (k := K) (d := 1) (f := 7) hT hK rfl rfl
    try dsimp only at lx26 ux26
    refine ex_gf oq_X1_pull_45 hT (k := K) (d := 1) hK rfl ax26 ?_
    clear lx26 ux26
    have rx26 := (rx26.symm.trans (tG 7 (by decide)) : x26.toInt = γ 7)
    refine ex_sub oq_X1_pull_48 (by omega) (fun x27 hx27 => ?_)
    refine ex_mul oq_X1_pull_49 (m := (T 0 * (T 2 + 2 * γ 9) / (2 * (T 4 - T 3))) * (100 - γ 7)) (by rw [show x23.toInt = T 0 * (T 2 + 2 * γ 9) / (2 * (T 4 - T 3)) from by omega, show x27.toInt = 100 - γ 7 from by omega]) (by omega) (fun x28 hx28 => ?_)
    refine ex_bi oq_X1_pull_50 (m := 100) (by decide) (fun x29 hx29 => ?_)
    refine ex_div oq_X1_pull_52 (by omega) (by omega) (fun x30 hx30 => ?_)
    replace hx30 : x30.toInt = ((T 0 * (T 2 + 2 * γ 9) / (2 * (T 4 - T 3))) * (100 - γ 7)) / (100) := by rw [hx30, show x28.toInt = (T 0 * (T 2 + 2 * γ 9) / (2 * (T 4 - T 3))) * (100 - γ 7) from by omega, show x29.toInt = 100 from by omega]
    exact ex_reti oq_X1_pull_53 rfl (hQ x30 (by omega))
  · exfalso; omega
theorem oq_X1_leanPart_0 : cw_ho 18 0 (.aload_n 0) 1 0 0 0 := rfl
theorem oq_X1_leanPart_1 : cw_ho 18 1 (.getfield 9) 3 1 0 4 := rfl
theorem oq_X1_leanPart_4 : cw_ho 18 4 (.getfield 96) 3 7 1 0 := rfl
theorem oq_X1_leanPart_7 : cw_ho 18 7 (.ifCond .le 26) 3 0 0 0 := rfl
theorem oq_X1_leanPart_10 : cw_ho 18 10 (.aload_n 0) 1 0 0 0 := rfl
theorem oq_X1_leanPart_11 : cw_ho 18 11 (.getfield 21) 3 1 1 0 := rfl
theorem oq_X1_leanPart_14 : cw_ho 18 14 (.aload_n 0) 1 0 0 0 := rfl
theorem oq_X1_leanPart_15 : cw_ho 18 15 (.getfield 9) 3 1 0 4 := rfl
theorem oq_X1_leanPart_18 : cw_ho 18 18 (.getfield 90) 3 7 0 0 := rfl
theorem oq_X1_leanPart_21 : cw_ho 18 21 (.imul) 1 0 0 0 := rfl
theorem oq_X1_leanPart_22 : cw_ho 18 22 (.aload_n 0) 1 0 0 0 := rfl
theorem oq_X1_leanPart_23 : cw_ho 18 23 (.getfield 9) 3 1 0 4 := rfl
theorem oq_X1_leanPart_26 : cw_ho 18 26 (.getfield 96) 3 7 1 0 := rfl
theorem oq_X1_leanPart_29 : cw_ho 18 29 (.idiv) 1 0 0 0 := rfl
theorem oq_X1_leanPart_30 : cw_ho 18 30 (.goto 4) 3 0 0 0 := rfl
theorem oq_X1_leanPart_34 : cw_ho 18 34 (.ireturn) 1 0 0 0 := rfl
theorem cg_leanPart (hT : cw_T G h) {K U : Nat} (hK : cw_sh[K]? = some 1) (hU : cw_sh[U]? = some 7) (hp : cw_at h K 0 = some (cv_r U)) {T γ : Nat → Int} (tT : zTV h U T) (tG : zGV h K γ) (rT : gTR T) (rG : gGR γ) (hQ : ∀ x : Int32, x.toInt = gLean T (γ 1) → Q (some (cv_i x), h)) : cw_X X 18 Q 0 (cv_ent 0 [cv_r K]) [] h := by
  unfold gLean at hQ
  obtain ⟨rT0, rT1, rT2, rT3, rT5, rT6, rT7, rT8, rT9, rT10, rT11, rT12, rT13, rT14⟩ := rT
  obtain ⟨rG1, rG2, rG3, rG4, rG5, rG6, rG7, rG8, rG9, rG10, rG11, rG12, rG13, rG14, rG15, rG16⟩ := rG
  refine ex_al oq_X1_leanPart_0 rfl ?_
  refine ex_gf oq_X1_leanPart_1 hT (k := K) (d := 1) hK rfl (hp) ?_
  obtain ⟨x11, ax11, rx11, lx11, ux11⟩ := ri_fld (k := U) (d := 7) (f := 1) hT hU rfl rfl
  try dsimp only at lx11 ux11
  refine ex_gf oq_X1_leanPart_4 hT (k := U) (d := 7) hU rfl ax11 ?_
  have rx11 := (rx11.symm.trans (tT 1 (by decide)) : x11.toInt = T 1)
  refine ex_if0 oq_X1_leanPart_7 (t := 33) rfl rfl (fun (c12 : x11.toInt ≤ 0) => ?_) (fun (c12 : ¬ (x11.toInt ≤ 0)) => ?_)
  · exfalso; omega
  · refine ex_al oq_X1_leanPart_10 rfl ?_
    obtain ⟨x13, ax13, rx13, lx13, ux13⟩ := ri_fld (k := K) (d := 1) (f := 1) hT hK rfl rfl
    try dsimp only at lx13 ux13
    refine ex_gf oq_X1_leanPart_11 hT (k := K) (d := 1) hK rfl ax13 ?_
    clear lx13 ux13
    have rx13 := (rx13.symm.trans (tG 1 (by decide)) : x13.toInt = γ 1)
    refine ex_al oq_X1_leanPart_14 rfl ?_
    refine ex_gf oq_X1_leanPart_15 hT (k := K) (d := 1) hK rfl (hp) ?_
    obtain ⟨x14, ax14, rx14, lx14, ux14⟩ := ri_fld (k := U) (d := 7) (f := 0) hT hU rfl rfl
    try dsimp only at lx14 ux14
    refine ex_gf oq_X1_leanPart_18 hT (k := U) (d := 7) hU rfl ax14 ?_
    clear lx14 ux14
    have rx14 := (rx14.symm.trans (tT 0 (by decide)) : x14.toInt = T 0)
    have mb := zmb rG1 (show 0 ≤ T 0 ∧ T 0 ≤ 144 from ⟨by omega, by omega⟩)
    refine ex_mul oq_X1_leanPart_21 (m := (γ 1) * (T 0)) (by rw [show x13.toInt = γ 1 from by omega, show x14.toInt = T 0 from by omega]) (by omega) (fun x15 hx15 => ?_)
    refine ex_al oq_X1_leanPart_22 rfl ?_
    refine ex_gf oq_X1_leanPart_23 hT (k := K) (d := 1) hK rfl (hp) ?_
    obtain ⟨x16, ax16, rx16, lx16, ux16⟩ := ri_fld (k := U) (d := 7) (f := 1) hT hU rfl rfl
    try dsimp only at lx16 ux16
    refine ex_gf oq_X1_leanPart_26 hT (k := U) (d := 7) hU rfl ax16 ?_
    have rx16 := (rx16.symm.trans (tT 1 (by decide)) : x16.toInt = T 1)
    refine ex_div oq_X1_leanPart_29 (by omega) (by omega) (fun x17 hx17 => ?_)
    replace hx17 : x17.toInt = (γ 1 * T 0) / (T 1) := by rw [hx17, show x15.toInt = γ 1 * T 0 from by omega, show x16.toInt = T 1 from by omega]
    refine ex_go oq_X1_leanPart_30 (t := 34) rfl rfl ?_
    exact ex_reti oq_X1_leanPart_34 rfl (hQ x17 (by omega))
theorem oq_X1_hooksPart_0 : cw_ho 19 0 (.aload_n 0) 1 0 0 0 := rfl
theorem oq_X1_hooksPart_1 : cw_ho 19 1 (.getfield 9) 3 1 0 4 := rfl
theorem oq_X1_hooksPart_4 : cw_ho 19 4 (.invokevirtual 86) 3 88 0 7 := rfl
theorem oq_X1_hooksPart_7 : cw_ho 19 7 (.istore_n 1) 1 0 0 0 := rfl
theorem oq_X1_hooksPart_8 : cw_ho 19 8 (.iload_n 1) 1 0 0 0 := rfl
theorem oq_X1_hooksPart_9 : cw_ho 19 9 (.ifCond .le 20) 3 0 0 0 := rfl
theorem oq_X1_hooksPart_12 : cw_ho 19 12 (.aload_n 0) 1 0 0 0 := rfl
theorem oq_X1_hooksPart_13 : cw_ho 19 13 (.getfield 28) 3 1 3 0 := rfl
theorem oq_X1_hooksPart_16 : cw_ho 19 16 (.aload_n 0) 1 0 0 0 := rfl
theorem oq_X1_hooksPart_17 : cw_ho 19 17 (.getfield 9) 3 1 0 4 := rfl
theorem oq_X1_hooksPart_20 : cw_ho 19 20 (.getfield 90) 3 7 0 0 := rfl
theorem oq_X1_hooksPart_23 : cw_ho 19 23 (.imul) 1 0 0 0 := rfl
theorem oq_X1_hooksPart_24 : cw_ho 19 24 (.iload_n 1) 1 0 0 0 := rfl
theorem oq_X1_hooksPart_25 : cw_ho 19 25 (.idiv) 1 0 0 0 := rfl
theorem oq_X1_hooksPart_26 : cw_ho 19 26 (.goto 4) 3 0 0 0 := rfl
theorem oq_X1_hooksPart_30 : cw_ho 19 30 (.ireturn) 1 0 0 0 := rfl
theorem cg_hooksPart (hT : cw_T G h) {K U : Nat} (hK : cw_sh[K]? = some 1) (hU : cw_sh[U]? = some 7) (hp : cw_at h K 0 = some (cv_r U)) {T γ : Nat → Int} (tT : zTV h U T) (tG : zGV h K γ) (rT : gTR T) (rG : gGR γ) (hQ : ∀ x : Int32, x.toInt = gHook T (γ 3) → Q (some (cv_i x), h)) : cw_X X 19 Q 0 (cv_ent 0 [cv_r K]) [] h := by
  have rT' := rT
  unfold gHook at hQ
  obtain ⟨rT0, rT1, rT2, rT3, rT5, rT6, rT7, rT8, rT9, rT10, rT11, rT12, rT13, rT14⟩ := rT'
  obtain ⟨rG1, rG2, rG3, rG4, rG5, rG6, rG7, rG8, rG9, rG10, rG11, rG12, rG13, rG14, rG15, rG16⟩ := rG
  refine ex_al oq_X1_hooksPart_0 rfl ?_
  refine ex_gf oq_X1_hooksPart_1 hT (k := K) (d := 1) hK rfl (hp) ?_
  refine ex_cv oq_X1_hooksPart_4 (by decide) hT (k := U) (d := 7) (as := []) (stk := []) hU rfl rfl rfl rfl rfl ⟨rfl, rfl⟩ (R := fun o => ∃ x : Int32, o = (some (cv_i x), h) ∧ x.toInt = T 4 - T 3) (cg_span hT hU tT rT (fun x q => ⟨x, rfl, q⟩)) (fun o ho => ?_)
  obtain ⟨x11, rfl, hx11⟩ := ho
  show cw_X _ _ _ _ _ [cv_i x11] h
  refine ex_isA oq_X1_hooksPart_7 (fun L12 gL12_1 kL12 => ?_)
  have gL12_0 : cv_get L12 0 = some (cv_r K) := kL12 0 _ (by decide) (fun _ => rfl) rfl
  refine ex_il oq_X1_hooksPart_8 gL12_1 ?_
  refine ex_if0 oq_X1_hooksPart_9 (t := 29) rfl rfl (fun (c13 : x11.toInt ≤ 0) => ?_) (fun (c13 : ¬ (x11.toInt ≤ 0)) => ?_)
  · exfalso; omega
  · refine ex_al oq_X1_hooksPart_12 gL12_0 ?_
    obtain ⟨x14, ax14, rx14, lx14, ux14⟩ := ri_fld (k := K) (d := 1) (f := 3) hT hK rfl rfl
    try dsimp only at lx14 ux14
    refine ex_gf oq_X1_hooksPart_13 hT (k := K) (d := 1) hK rfl ax14 ?_
    clear lx14 ux14
    have rx14 := (rx14.symm.trans (tG 3 (by decide)) : x14.toInt = γ 3)
    refine ex_al oq_X1_hooksPart_16 gL12_0 ?_
    refine ex_gf oq_X1_hooksPart_17 hT (k := K) (d := 1) hK rfl (hp) ?_
    obtain ⟨x15, ax15, rx15, lx15, ux15⟩ := ri_fld (k := U) (d := 7) (f := 0) hT hU rfl rfl
    try dsimp only at lx15 ux15
    refine ex_gf oq_X1_hooksPart_20 hT (k := U) (d := 7) hU rfl ax15 ?_
    clear lx15 ux15
    have rx15 := (rx15.symm.trans (tT 0 (by decide)) : x15.toInt = T 0)
    have mb := zmb rG3 (show 0 ≤ T 0 ∧ T 0 ≤ 144 from ⟨by omega, by omega⟩)
    refine ex_mul oq_X1_hooksPart_23 (m := (γ 3) * (T 0)) (by rw [show x14.toInt = γ 3 from by omega, show x15.toInt = T 0 from by omega]) (by omega) (fun x16 hx16 => ?_)
    refine ex_il oq_X1_hooksPart_24 gL12_1 ?_
    refine ex_div oq_X1_hooksPart_25 (by omega) (by omega) (fun x17 hx17 => ?_)
    replace hx17 : x17.toInt = (γ 3 * T 0) / (T 4 - T 3) := by rw [hx17, show x16.toInt = γ 3 * T 0 from by omega, show x11.toInt = T 4 - T 3 from by omega]
    refine ex_go oq_X1_hooksPart_26 (t := 30) rfl rfl ?_
    exact ex_reti oq_X1_hooksPart_30 rfl (hQ x17 (by omega))
theorem oq_X1_drop_0 : cw_ho 20 0 (.aload_n 0) 1 0 0 0 := rfl
theorem oq_X1_drop_1 : cw_ho 20 1 (.invokevirtual 99) 3 18 0 1 := rfl
theorem oq_X1_drop_4 : cw_ho 20 4 (.aload_n 0) 1 0 0 0 := rfl
theorem oq_X1_drop_5 : cw_ho 20 5 (.getfield 25) 3 1 2 0 := rfl
theorem oq_X1_drop_8 : cw_ho 20 8 (.iadd) 1 0 0 0 := rfl
theorem oq_X1_drop_9 : cw_ho 20 9 (.aload_n 0) 1 0 0 0 := rfl
theorem oq_X1_drop_10 : cw_ho 20 10 (.invokevirtual 102) 3 19 0 1 := rfl
theorem oq_X1_drop_13 : cw_ho 20 13 (.iadd) 1 0 0 0 := rfl
theorem oq_X1_drop_14 : cw_ho 20 14 (.aload_n 0) 1 0 0 0 := rfl
theorem oq_X1_drop_15 : cw_ho 20 15 (.getfield 31) 3 1 4 0 := rfl
theorem oq_X1_drop_18 : cw_ho 20 18 (.isub) 1 0 0 0 := rfl
theorem oq_X1_drop_19 : cw_ho 20 19 (.ireturn) 1 0 0 0 := rfl
theorem cg_drop (hT : cw_T G h) {K U : Nat} (hK : cw_sh[K]? = some 1) (hU : cw_sh[U]? = some 7) (hp : cw_at h K 0 = some (cv_r U)) {T γ : Nat → Int} (tT : zTV h U T) (tG : zGV h K γ) (rT : gTR T) (rG : gGR γ) (hQ : ∀ x : Int32, x.toInt = gDrop T (γ 1) (γ 2) (γ 3) (γ 4) → Q (some (cv_i x), h)) : cw_X X 20 Q 0 (cv_ent 0 [cv_r K]) [] h := by
  have b1 := gLean_b rT rG.1
  have b2 := gHook_b rT rG.2.2.1
  have rT' := rT
  have rG' := rG
  unfold gDrop at hQ
  obtain ⟨rT0, rT1, rT2, rT3, rT5, rT6, rT7, rT8, rT9, rT10, rT11, rT12, rT13, rT14⟩ := rT'
  obtain ⟨rG1, rG2, rG3, rG4, rG5, rG6, rG7, rG8, rG9, rG10, rG11, rG12, rG13, rG14, rG15, rG16⟩ := rG'
  refine ex_al oq_X1_drop_0 rfl ?_
  refine ex_cv oq_X1_drop_1 (by decide) hT (k := K) (d := 1) (as := []) (stk := []) hK rfl rfl rfl rfl rfl ⟨rfl, rfl⟩ (R := fun o => ∃ x : Int32, o = (some (cv_i x), h) ∧ x.toInt = gLean T (γ 1)) (cg_leanPart hT hK hU hp tT tG rT rG (fun x q => ⟨x, rfl, q⟩)) (fun o ho => ?_)
  obtain ⟨x11, rfl, hx11⟩ := ho
  show cw_X _ _ _ _ _ [cv_i x11] h
  refine ex_al oq_X1_drop_4 rfl ?_
  obtain ⟨x12, ax12, rx12, lx12, ux12⟩ := ri_fld (k := K) (d := 1) (f := 2) hT hK rfl rfl
  try dsimp only at lx12 ux12
  refine ex_gf oq_X1_drop_5 hT (k := K) (d := 1) hK rfl ax12 ?_
  clear lx12 ux12
  have rx12 := (rx12.symm.trans (tG 2 (by decide)) : x12.toInt = γ 2)
  refine ex_add oq_X1_drop_8 (by omega) (fun x13 hx13 => ?_)
  refine ex_al oq_X1_drop_9 rfl ?_
  refine ex_cv oq_X1_drop_10 (by decide) hT (k := K) (d := 1) (as := []) (stk := [cv_i x13]) hK rfl rfl rfl rfl rfl ⟨rfl, rfl⟩ (R := fun o => ∃ x : Int32, o = (some (cv_i x), h) ∧ x.toInt = gHook T (γ 3)) (cg_hooksPart hT hK hU hp tT tG rT rG (fun x q => ⟨x, rfl, q⟩)) (fun o ho => ?_)
  obtain ⟨x14, rfl, hx14⟩ := ho
  show cw_X _ _ _ _ _ [cv_i x14, cv_i x13] h
  refine ex_add oq_X1_drop_13 (by omega) (fun x15 hx15 => ?_)
  refine ex_al oq_X1_drop_14 rfl ?_
  obtain ⟨x16, ax16, rx16, lx16, ux16⟩ := ri_fld (k := K) (d := 1) (f := 4) hT hK rfl rfl
  try dsimp only at lx16 ux16
  refine ex_gf oq_X1_drop_15 hT (k := K) (d := 1) hK rfl ax16 ?_
  clear lx16 ux16
  have rx16 := (rx16.symm.trans (tG 4 (by decide)) : x16.toInt = γ 4)
  refine ex_sub oq_X1_drop_18 (by omega) (fun x17 hx17 => ?_)
  exact ex_reti oq_X1_drop_19 rfl (hQ x17 (by omega))
end GN
