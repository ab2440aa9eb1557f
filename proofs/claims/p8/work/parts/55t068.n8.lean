/-! ===== weeks go by for a gate: the class ===== -/
def gWk (T g : Nat → Int) (LL : Nat → Option (List Int)) (w : Int) (γ : Nat → Int) : Nat → Int := gGrow γ (gLw (LL 0) (gNm T γ (gFirm g w) w 0)) (gLw (LL 1) (gNm T γ (gFirm g w) w 0)) (gLw (LL 2) (gNm T γ (gFirm g w) w 0))
def gPs (T g : Nat → Int) (LL : Nat → Option (List Int)) : Nat → Int → (Nat → Int) → Nat → Int
  | 0, _, γ => γ
  | n + 1, w, γ => gPs T g LL n (w + 1) (gWk T g LL w γ)
theorem gGrow_R {γ : Nat → Int} {a b c : Int} (rG : gGR γ) (ha : 0 ≤ a ∧ a ≤ 9999) (hb : 0 ≤ b ∧ b ≤ 9999) (hc : 0 ≤ c ∧ c ≤ 9999) : gGR (gGrow γ a b c) := by
  obtain ⟨rG1, rG2, rG3, rG4, rG5, rG6, rG7, rG8, rG9, rG10, rG11, rG12, rG13, rG14, rG15, rG16⟩ := rG
  refine ⟨?_, ?_, ?_, rG4, rG5, rG6, rG7, rG8, rG9, rG10, rG11, rG12, rG13, rG14, rG15, rG16⟩
  · show 0 ≤ min 1000000 (γ 1 + a + γ 12) ∧ min 1000000 (γ 1 + a + γ 12) ≤ 1000000
    omega
  · show 0 ≤ min 1000000 (γ 2 + b + γ 13) ∧ min 1000000 (γ 2 + b + γ 13) ≤ 1000000
    omega
  · show 0 ≤ min 1000000 (γ 3 + c + γ 14) ∧ min 1000000 (γ 3 + c + γ 14) ≤ 1000000
    omega
theorem gNm_b {T γ : Nat → Int} {firm week fall : Int} (rT : gTR T) (rG : gGR γ) (hf : 0 ≤ firm ∧ firm ≤ 100) (hw : 0 ≤ week ∧ week ≤ 10000000) (hl : 0 ≤ fall ∧ fall ≤ 99) (j : Nat) : zbb (gNm T γ firm week fall j) := by
  have p := (gPull_b rT rG.2.2.2.2.2.2.2.2.1 rG.2.2.2.2.2.2.1).2.2.2
  have d := gDrop_b rT rG.1 rG.2.1 rG.2.2.1 rG.2.2.2.1
  obtain ⟨rT0, rT1, rT2, rT3, rT5, rT6, rT7, rT8, rT9, rT10, rT11, rT12, rT13, rT14⟩ := rT
  obtain ⟨rG1, rG2, rG3, rG4, rG5, rG6, rG7, rG8, rG9, rG10, rG11, rG12, rG13, rG14, rG15, rG16⟩ := rG
  unfold zbb gNm
  repeat' split
  all_goals omega
/-- what working out a week's growth may change -/
def zH4 (h h' : cv_H) : Prop := (∀ k : Nat, k ≠ 55 → k ≠ 56 → k ≠ 57 → k ≠ 58 → h'[k]? = h[k]?) ∧ ∀ i, i ≠ 3 → i ≠ 4 → cw_at h' 55 i = cw_at h 55 i
theorem zH4_tr {h h' h'' : cv_H} (a : zH4 h h') (b : zH4 h' h'') : zH4 h h'' := ⟨fun k p q r s => (b.1 k p q r s).trans (a.1 k p q r s), fun i p q => (b.2 i p q).trans (a.2 i p q)⟩
theorem zH4_f {h h' : cv_H} (a : zF3 h h') : zH4 h h' := ⟨fun k p q _ _ => a.1 k p q, fun i p _ => a.2 i p⟩
theorem zH4_g {h h' : cv_H} (a : zG3 h h') : zH4 h h' := ⟨fun k p _ q r => a.1 k p q r, fun i _ q => a.2 i q⟩
theorem zH4_w {h h' : cv_H} {v : cv_V} (w : cw_Wr h h' 55 3 v) : zH4 h h' := ⟨fun k p _ _ _ => w.2.2 k p, fun i p _ => w.2.1 55 i (.inr p)⟩
theorem zH4_at {h h' : cv_H} {k d i : Nat} (a : zH4 h h') (hk : cw_sh[k]? = some d) (hd : (!(d == 2) && (!(d == 17) && (!(d == 18) && !(d == 19)))) = true) : cw_at h' k i = cw_at h k i := by
  simp only [Bool.and_eq_true, Bool.not_eq_true', beq_eq_false_iff_ne, ne_eq] at hd
  unfold cw_at
  rw [a.1 k (cw_kne (k := k) (d := d) (k' := 55) (d' := 2) hk rfl hd.1) (cw_kne (k := k) (d := d) (k' := 56) (d' := 17) hk rfl hd.2.1) (cw_kne (k := k) (d := d) (k' := 57) (d' := 18) hk rfl hd.2.2.1) (cw_kne (k := k) (d := d) (k' := 58) (d' := 19) hk rfl hd.2.2.2)]
theorem zH4_ri {h h' : cv_H} {k d i : Nat} (a : zH4 h h') (hk : cw_sh[k]? = some d) (hd : (!(d == 2) && (!(d == 17) && (!(d == 18) && !(d == 19)))) = true) : ri_at h' k i = ri_at h k i := ri_eq (zH4_at a hk hd)
/-- weeks of one gate: what may change -/
def zPF (K : Nat) (h h' : cv_H) : Prop := (∀ k : Nat, k ≠ 55 → k ≠ 56 → k ≠ 57 → k ≠ 58 → k ≠ K → h'[k]? = h[k]?) ∧ ∀ i, i ≠ 3 → i ≠ 4 → cw_at h' 55 i = cw_at h 55 i
theorem zPF_0 {K : Nat} {h : cv_H} : zPF K h h := ⟨fun _ _ _ _ _ _ => rfl, fun _ _ _ => rfl⟩
theorem zPF_tr {K : Nat} {h h' h'' : cv_H} (a : zPF K h h') (b : zPF K h' h'') : zPF K h h'' := ⟨fun k p q r s t => (b.1 k p q r s t).trans (a.1 k p q r s t), fun i p q => (b.2 i p q).trans (a.2 i p q)⟩
theorem zPF_h {K : Nat} {h h' h'' : cv_H} (hK : cw_sh[K]? = some 1) (a : zH4 h h') (b : cp_F K h' h'') : zPF K h h'' := ⟨fun k p q r s t => (b k t).trans (a.1 k p q r s), fun i p q => (cp_at b (cw_kne (k := 55) (d := 2) (k' := K) (d' := 1) rfl hK (by decide))).trans (a.2 i p q)⟩
theorem zPF_at {K : Nat} {h h' : cv_H} {k d i : Nat} (a : zPF K h h') (hK : cw_sh[K]? = some 1) (hk : cw_sh[k]? = some d) (hd : (!(d == 2) && (!(d == 17) && (!(d == 18) && (!(d == 19) && !(d == 1))))) = true) : cw_at h' k i = cw_at h k i := by
  simp only [Bool.and_eq_true, Bool.not_eq_true', beq_eq_false_iff_ne, ne_eq] at hd
  unfold cw_at
  rw [a.1 k (cw_kne (k := k) (d := d) (k' := 55) (d' := 2) hk rfl hd.1) (cw_kne (k := k) (d := d) (k' := 56) (d' := 17) hk rfl hd.2.1) (cw_kne (k := k) (d := d) (k' := 57) (d' := 18) hk rfl hd.2.2.1) (cw_kne (k := k) (d := d) (k' := 58) (d' := 19) hk rfl hd.2.2.2.1) (cw_kne (k := k) (d := d) (k' := K) (d' := 1) hk hK hd.2.2.2.2)]
theorem zPF_ri {K : Nat} {h h' : cv_H} {k d i : Nat} (a : zPF K h h') (hK : cw_sh[K]? = some 1) (hk : cw_sh[k]? = some d) (hd : (!(d == 2) && (!(d == 17) && (!(d == 18) && (!(d == 19) && !(d == 1))))) = true) : ri_at h' k i = ri_at h k i := ri_eq (zPF_at a hK hk hd)
theorem zLP_g {h h' : cv_H} {V : Nat → Int} (z : zG3 h h') (a : zLP h V) : zLP h' V := by
  have e : ri_at h' 55 3 = ri_at h 55 3 := ri_eq (z.2 3 (by decide))
  rcases a with a | ⟨S, a1, a2, a3⟩
  · exact .inl (e.trans a)
  · exact .inr ⟨S, a1, e.trans a2, fun j hj ht => (rl_eq (zG3_at z (by decide) (by decide) (by decide))).trans (a3 j hj ht)⟩
theorem zCq_g {h h' : cv_H} {l : Nat} {oo : Option (List Int)} {V : Nat → Int} (z : zG3 h h') (e : ri_at h' 58 l = ri_at h 58 l) (a : zCq h l oo V) : zCq h' l oo V := by
  have e3 : ri_at h' 55 3 = ri_at h 55 3 := ri_eq (z.2 3 (by decide))
  rcases a with a | a
  · exact .inl ⟨e3.trans a.1, fun q => e.trans (a.2 q)⟩
  · exact .inr (e.trans a)
theorem zCq_f {h h' : cv_H} {l : Nat} {oo : Option (List Int)} {V : Nat → Int} (z : zF3 h h') (m : ri_at h 55 3 = -1 → ri_at h' 55 3 = -1) (a : zCq h l oo V) : zCq h' l oo V := by
  have e : ri_at h' 58 l = ri_at h 58 l := zF3_ri z (by decide) (by decide)
  rcases a with a | a
  · exact .inl ⟨m a.1, fun q => e.trans (a.2 q)⟩
  · exact .inr (e.trans a)
/-- the laws' object between calls -/
def zLC (h : cv_H) (LL : Nat → Option (List Int)) : Prop := ∃ V, zLP h V ∧ ∀ l, l < 3 → zCq h l (LL l) V
section GN
variable {G : Int} {X : cv_X} {Q : cv_O → Prop} {h0 : cv_H}
section PS
variable {b RC RA RB RN RG K U : Nat} {T g : Nat → Int} {LL : Nat → Option (List Int)}
theorem oq_X2_pass_3 : cw_ho 32 3 (.iload 5) 2 0 0 0 := rfl
theorem oq_X2_pass_5 : cw_ho 32 5 (.iload_n 3) 1 0 0 0 := rfl
theorem oq_X2_pass_6 : cw_ho 32 6 (.iload 4) 2 0 0 0 := rfl
theorem oq_X2_pass_8 : cw_ho 32 8 (.iadd) 1 0 0 0 := rfl
theorem oq_X2_pass_9 : cw_ho 32 9 (.if_icmp .ge 67) 3 0 0 0 := rfl
theorem oq_X2_pass_12 : cw_ho 32 12 (.aload_n 0) 1 0 0 0 := rfl
theorem oq_X2_pass_13 : cw_ho 32 13 (.aload_n 1) 1 0 0 0 := rfl
theorem oq_X2_pass_14 : cw_ho 32 14 (.aload_n 2) 1 0 0 0 := rfl
theorem oq_X2_pass_15 : cw_ho 32 15 (.iload 5) 2 0 0 0 := rfl
theorem oq_X2_pass_17 : cw_ho 32 17 (.iconst 0) 1 0 0 0 := rfl
theorem oq_X2_pass_18 : cw_ho 32 18 (.invokevirtual 66) 3 31 4 2 := rfl
theorem oq_X2_pass_21 : cw_ho 32 21 (.iconst 0) 1 0 0 0 := rfl
theorem oq_X2_pass_22 : cw_ho 32 22 (.istore 6) 2 0 0 0 := rfl
theorem oq_X2_pass_24 : cw_ho 32 24 (.iload 6) 2 0 0 0 := rfl
theorem oq_X2_pass_26 : cw_ho 32 26 (.iconst 3) 1 0 0 0 := rfl
theorem oq_X2_pass_27 : cw_ho 32 27 (.if_icmp .ge 16) 3 0 0 0 := rfl
theorem oq_X2_pass_30 : cw_ho 32 30 (.aload_n 0) 1 0 0 0 := rfl
theorem oq_X2_pass_31 : cw_ho 32 31 (.aload_n 1) 1 0 0 0 := rfl
theorem oq_X2_pass_32 : cw_ho 32 32 (.iload 6) 2 0 0 0 := rfl
theorem oq_X2_pass_34 : cw_ho 32 34 (.invokevirtual 70) 3 33 2 2 := rfl
theorem oq_X2_pass_37 : cw_ho 32 37 (.iinc 6 1) 3 0 0 0 := rfl
theorem oq_X2_pass_40 : cw_ho 32 40 (.goto (-16)) 3 0 0 0 := rfl
theorem oq_X2_pass_43 : cw_ho 32 43 (.aload_n 0) 1 0 0 0 := rfl
theorem oq_X2_pass_44 : cw_ho 32 44 (.iconst 0) 1 0 0 0 := rfl
theorem oq_X2_pass_45 : cw_ho 32 45 (.putfield 22) 3 2 3 0 := rfl
theorem oq_X2_pass_48 : cw_ho 32 48 (.aload_n 2) 1 0 0 0 := rfl
theorem oq_X2_pass_49 : cw_ho 32 49 (.aload_n 0) 1 0 0 0 := rfl
theorem oq_X2_pass_50 : cw_ho 32 50 (.getfield 18) 3 2 2 4 := rfl
theorem oq_X2_pass_53 : cw_ho 32 53 (.iconst 0) 1 0 0 0 := rfl
theorem oq_X2_pass_54 : cw_ho 32 54 (.iaload) 1 0 0 0 := rfl
theorem oq_X2_pass_55 : cw_ho 32 55 (.aload_n 0) 1 0 0 0 := rfl
theorem oq_X2_pass_56 : cw_ho 32 56 (.getfield 18) 3 2 2 4 := rfl
theorem oq_X2_pass_59 : cw_ho 32 59 (.iconst 1) 1 0 0 0 := rfl
theorem oq_X2_pass_60 : cw_ho 32 60 (.iaload) 1 0 0 0 := rfl
theorem oq_X2_pass_61 : cw_ho 32 61 (.aload_n 0) 1 0 0 0 := rfl
theorem oq_X2_pass_62 : cw_ho 32 62 (.getfield 18) 3 2 2 4 := rfl
theorem oq_X2_pass_65 : cw_ho 32 65 (.iconst 2) 1 0 0 0 := rfl
theorem oq_X2_pass_66 : cw_ho 32 66 (.iaload) 1 0 0 0 := rfl
theorem oq_X2_pass_67 : cw_ho 32 67 (.invokevirtual 74) 3 24 3 1 := rfl
theorem oq_X2_pass_70 : cw_ho 32 70 (.iinc 5 1) 3 0 0 0 := rfl
theorem oq_X2_pass_73 : cw_ho 32 73 (.goto (-70)) 3 0 0 0 := rfl
theorem oq_X2_pass_76 : cw_ho 32 76 (.return_) 1 0 0 0 := rfl
set_option maxHeartbeats 4000000 in
theorem ps_lp (hb : cw_sh[b]? = some 4) (hRC : cw_sh[RC]? = some 29) (hRA : cw_sh[RA]? = some 30) (hRB : cw_sh[RB]? = some 31) (hRN : cw_sh[RN]? = some 32) (hRG : cw_sh[RG]? = some 28) (hK : cw_sh[K]? = some 1) (hU : cw_sh[U]? = some 7) (pC : cw_at h0 b 1 = some (cv_r RC)) (pA : cw_at h0 b 4 = some (cv_r RA)) (pB : cw_at h0 b 5 = some (cv_r RB)) (pN : cw_at h0 b 6 = some (cv_r RN)) (pG : cw_at h0 b 0 = some (cv_r RG)) (hG : ∀ j, j < 12 → ri_at h0 RG j = g j) (hg : ∀ j, 0 ≤ g j ∧ g j ≤ 100) (tT : zTV h0 U T) (rT : gTR T) (hLw : ∀ l, l < 3 → zLw h0 RC RA RB RN l (LL l)) {F N : Int32} {RR : Nat → Int} (hFN : 0 ≤ F.toInt ∧ F.toInt ≤ 1000000 ∧ 0 ≤ N.toInt ∧ N.toInt ≤ 1000000) (hQ : ∀ h', cw_T G h' → zPF K h0 h' → zGV h' K RR → cw_at h' K 0 = some (cv_r U) → zLC h' LL → Q (none, h')) : ∀ (n : Nat) (γ : Nat → Int) (W : Int32) (h : cv_H) (L : cv_L), W.toInt + n = F.toInt + N.toInt → F.toInt ≤ W.toInt → cw_T G h → zPF K h0 h → zGV h K γ → gGR γ → cw_at h K 0 = some (cv_r U) → zLC h LL → gPs T g LL n W.toInt γ = RR → cv_get L 0 = some (cv_r 55) → cv_get L 1 = some (cv_r b) → cv_get L 2 = some (cv_r K) → cv_get L 3 = some (cv_i F) → cv_get L 4 = some (cv_i N) → cv_get L 5 = some (cv_i W) → cw_X X 32 Q 3 L [] h := by
  intro n
  induction n with
  | zero =>
    intro γ W h L hW hFW hT hF gv rG hp hLC hR g0 g1 g2 g3 g4 g5
    refine ex_ilw oq_X2_pass_3 g5 ?_
    refine ex_il oq_X2_pass_5 g3 ?_
    refine ex_ilw oq_X2_pass_6 g4 ?_
    refine ex_add oq_X2_pass_8 (by omega) (fun x101 hx101 => ?_)
    refine ex_if oq_X2_pass_9 (t := 76) rfl rfl (fun (c102 : x101.toInt ≤ W.toInt) => ?_) (fun (c102 : ¬ (x101.toInt ≤ W.toInt)) => ?_)
    · exact ex_retv oq_X2_pass_76 rfl (hQ h hT hF (by rw [← hR]; exact gv) hp hLC)
    · exfalso; omega
  | succ n ih =>
    intro γ W h L hW hFW hT hF gv rG hp hLC hR g0 g1 g2 g3 g4 g5
    obtain ⟨V, hP, hC⟩ := hLC
    have hNb : ∀ j, zbb ((gNm T γ (gFirm g W.toInt) W.toInt 0) j) := gNm_b rT rG (hg _) (by omega) (by omega)
    refine ex_ilw oq_X2_pass_3 g5 ?_
    refine ex_il oq_X2_pass_5 g3 ?_
    refine ex_ilw oq_X2_pass_6 g4 ?_
    refine ex_add oq_X2_pass_8 (by omega) (fun x101 hx101 => ?_)
    refine ex_if oq_X2_pass_9 (t := 76) rfl rfl (fun (c102 : x101.toInt ≤ W.toInt) => ?_) (fun (c102 : ¬ (x101.toInt ≤ W.toInt)) => ?_)
    · exfalso; omega
    · refine ex_al oq_X2_pass_12 g0 ?_
      refine ex_al oq_X2_pass_13 g1 ?_
      refine ex_al oq_X2_pass_14 g2 ?_
      refine ex_ilw oq_X2_pass_15 g5 ?_
      refine ex_ic oq_X2_pass_17 (m := 0) (by decide) (fun x103 hx103 => ?_)
      refine ex_cv oq_X2_pass_18 (by decide) hT (k := 55) (d := 2) (as := [cv_r b, cv_r K, cv_i W, cv_i x103]) (stk := []) rfl rfl rfl rfl rfl rfl ⟨rfl, rfl⟩ (R := fun o => ∃ hb : cv_H, o = (none, hb) ∧ cw_T G hb ∧ zF3 h hb ∧ (∀ j, j < 10 → rl_at hb 56 j = gNm T γ (gFirm g W.toInt) W.toInt x103.toInt j) ∧ zLP hb V ∧ (ri_at h 55 3 = -1 → ri_at hb 55 3 = -1)) (cl_see hT hb hRG ((zPF_at hF hK hb (by decide)).trans pG) (fun j hj => (zPF_ri hF hK hRG (by decide)).trans (hG j hj)) hg hK hU hp (fun j hj => (zPF_ri hF hK hU (by decide)).trans (tT j hj)) gv rT rG (by omega) hP (fun hb b1 b2 b3 b4 b5 => ⟨hb, rfl, b1, b2, b3, b4, b5⟩)) (fun o ho => ?_)
      obtain ⟨h104, rfl, Th104, zh104, Nh104, Ph104, Mh104⟩ := ho
      show cw_X _ _ _ _ _ [] h104
      rw [hx103] at Nh104
      have Dh104 := zH4_f zh104
      have c0h104 : zCq h104 0 (LL 0) V := zCq_f zh104 Mh104 (hC 0 (by decide))
      have c1h104 : zCq h104 1 (LL 1) V := zCq_f zh104 Mh104 (hC 1 (by decide))
      have c2h104 : zCq h104 2 (LL 2) V := zCq_f zh104 Mh104 (hC 2 (by decide))
      refine ex_ic oq_X2_pass_21 (m := 0) (by decide) (fun x105 hx105 => ?_)
      refine ex_iswA oq_X2_pass_22 (fun L106 gL106_6 kL106 => ?_)
      have gL106_0 : cv_get L106 0 = some (cv_r 55) := kL106 0 _ (by decide) (fun q => absurd q (by decide)) g0
      have gL106_1 : cv_get L106 1 = some (cv_r b) := kL106 1 _ (by decide) (fun q => absurd q (by decide)) g1
      have gL106_2 : cv_get L106 2 = some (cv_r K) := kL106 2 _ (by decide) (fun q => absurd q (by decide)) g2
      have gL106_3 : cv_get L106 3 = some (cv_i F) := kL106 3 _ (by decide) (fun q => absurd q (by decide)) g3
      have gL106_4 : cv_get L106 4 = some (cv_i N) := kL106 4 _ (by decide) (fun q => absurd q (by decide)) g4
      have gL106_5 : cv_get L106 5 = some (cv_i W) := kL106 5 _ (by decide) (fun _ => rfl) g5
      refine ex_ilw oq_X2_pass_24 gL106_6 ?_
      refine ex_ic oq_X2_pass_26 (m := 3) (by decide) (fun x107 hx107 => ?_)
      refine ex_if oq_X2_pass_27 (t := 43) rfl rfl (fun (c108 : x107.toInt ≤ x105.toInt) => ?_) (fun (c108 : ¬ (x107.toInt ≤ x105.toInt)) => ?_)
      · exfalso; omega
      · refine ex_al oq_X2_pass_30 gL106_0 ?_
        refine ex_al oq_X2_pass_31 gL106_1 ?_
        refine ex_ilw oq_X2_pass_32 gL106_6 ?_
        refine ex_cv oq_X2_pass_34 (by decide) Th104 (k := 55) (d := 2) (as := [cv_r b, cv_i x105]) (stk := []) rfl rfl rfl rfl rfl rfl ⟨rfl, rfl⟩ (R := fun o => ∃ hb : cv_H, o = (none, hb) ∧ cw_T G hb ∧ zG3 h104 hb ∧ ri_at hb 58 0 = gLw (LL 0) (gNm T γ (gFirm g W.toInt) W.toInt 0) ∧ ∀ i, i ≠ 0 → ri_at hb 58 i = ri_at h104 58 i) (cl_refresh hb hRC hRA hRB hRN ((zH4_at Dh104 hb (by decide)).trans ((zPF_at hF hK hb (by decide)).trans pC)) ((zH4_at Dh104 hb (by decide)).trans ((zPF_at hF hK hb (by decide)).trans pA)) ((zH4_at Dh104 hb (by decide)).trans ((zPF_at hF hK hb (by decide)).trans pB)) ((zH4_at Dh104 hb (by decide)).trans ((zPF_at hF hK hb (by decide)).trans pN)) Th104 (l := 0) (by omega) (by omega) Nh104 hNb Ph104 (zLw_eq (hLw 0 (by decide)) (fun k i hk => by rcases hk with rfl | rfl | rfl | rfl <;> exact (zH4_ri Dh104 (by assumption) (by decide)).trans (zPF_ri hF hK (by assumption) (by decide)))) c0h104 (fun hb b1 b2 b3 b4 => ⟨hb, rfl, b1, b2, b3, b4⟩)) (fun o ho => ?_)
        obtain ⟨h109, rfl, Th109, zh109, g0h109, nh109⟩ := ho
        show cw_X _ _ _ _ _ [] h109
        have Dh109 := zH4_tr Dh104 (zH4_g zh109)
        have Ph109 := zLP_g zh109 Ph104
        have Nh109 : ∀ j, j < 10 → rl_at h109 56 j = (gNm T γ (gFirm g W.toInt) W.toInt 0) j := fun j hj => (rl_eq (zG3_at zh109 (by decide) (by decide) (by decide))).trans (Nh104 j hj)
        have c1h109 : zCq h109 1 (LL 1) V := zCq_g zh109 (nh109 1 (by decide)) c1h104
        have c2h109 : zCq h109 2 (LL 2) V := zCq_g zh109 (nh109 2 (by decide)) c2h104
        refine ex_incA oq_X2_pass_37 (v := x105) (m := 1) gL106_6 (by decide) (by omega) (fun L111 x110 hx110 gL111_6 kL111 => ?_)
        have gL111_0 : cv_get L111 0 = some (cv_r 55) := kL111 0 _ (by decide) (fun q => absurd q (by decide)) gL106_0
        have gL111_1 : cv_get L111 1 = some (cv_r b) := kL111 1 _ (by decide) (fun q => absurd q (by decide)) gL106_1
        have gL111_2 : cv_get L111 2 = some (cv_r K) := kL111 2 _ (by decide) (fun q => absurd q (by decide)) gL106_2
        have gL111_3 : cv_get L111 3 = some (cv_i F) := kL111 3 _ (by decide) (fun q => absurd q (by decide)) gL106_3
        have gL111_4 : cv_get L111 4 = some (cv_i N) := kL111 4 _ (by decide) (fun q => absurd q (by decide)) gL106_4
        have gL111_5 : cv_get L111 5 = some (cv_i W) := kL111 5 _ (by decide) (fun _ => rfl) gL106_5
        refine ex_go oq_X2_pass_40 (t := 24) rfl rfl ?_
        refine ex_ilw oq_X2_pass_24 gL111_6 ?_
        refine ex_ic oq_X2_pass_26 (m := 3) (by decide) (fun x112 hx112 => ?_)
        refine ex_if oq_X2_pass_27 (t := 43) rfl rfl (fun (c113 : x112.toInt ≤ x110.toInt) => ?_) (fun (c113 : ¬ (x112.toInt ≤ x110.toInt)) => ?_)
        · exfalso; omega
        · refine ex_al oq_X2_pass_30 gL111_0 ?_
          refine ex_al oq_X2_pass_31 gL111_1 ?_
          refine ex_ilw oq_X2_pass_32 gL111_6 ?_
          refine ex_cv oq_X2_pass_34 (by decide) Th109 (k := 55) (d := 2) (as := [cv_r b, cv_i x110]) (stk := []) rfl rfl rfl rfl rfl rfl ⟨rfl, rfl⟩ (R := fun o => ∃ hb : cv_H, o = (none, hb) ∧ cw_T G hb ∧ zG3 h109 hb ∧ ri_at hb 58 1 = gLw (LL 1) (gNm T γ (gFirm g W.toInt) W.toInt 0) ∧ ∀ i, i ≠ 1 → ri_at hb 58 i = ri_at h109 58 i) (cl_refresh hb hRC hRA hRB hRN ((zH4_at Dh109 hb (by decide)).trans ((zPF_at hF hK hb (by decide)).trans pC)) ((zH4_at Dh109 hb (by decide)).trans ((zPF_at hF hK hb (by decide)).trans pA)) ((zH4_at Dh109 hb (by decide)).trans ((zPF_at hF hK hb (by decide)).trans pB)) ((zH4_at Dh109 hb (by decide)).trans ((zPF_at hF hK hb (by decide)).trans pN)) Th109 (l := 1) (by omega) (by omega) Nh109 hNb Ph109 (zLw_eq (hLw 1 (by decide)) (fun k i hk => by rcases hk with rfl | rfl | rfl | rfl <;> exact (zH4_ri Dh109 (by assumption) (by decide)).trans (zPF_ri hF hK (by assumption) (by decide)))) c1h109 (fun hb b1 b2 b3 b4 => ⟨hb, rfl, b1, b2, b3, b4⟩)) (fun o ho => ?_)
          obtain ⟨h114, rfl, Th114, zh114, g1h114, nh114⟩ := ho
          show cw_X _ _ _ _ _ [] h114
          have Dh114 := zH4_tr Dh109 (zH4_g zh114)
          have Ph114 := zLP_g zh114 Ph109
          have Nh114 : ∀ j, j < 10 → rl_at h114 56 j = (gNm T γ (gFirm g W.toInt) W.toInt 0) j := fun j hj => (rl_eq (zG3_at zh114 (by decide) (by decide) (by decide))).trans (Nh109 j hj)
          have g0h114 := (nh114 0 (by decide)).trans g0h109
          have c2h114 : zCq h114 2 (LL 2) V := zCq_g zh114 (nh114 2 (by decide)) c2h109
          refine ex_incA oq_X2_pass_37 (v := x110) (m := 1) gL111_6 (by decide) (by omega) (fun L116 x115 hx115 gL116_6 kL116 => ?_)
          have gL116_0 : cv_get L116 0 = some (cv_r 55) := kL116 0 _ (by decide) (fun q => absurd q (by decide)) gL111_0
          have gL116_1 : cv_get L116 1 = some (cv_r b) := kL116 1 _ (by decide) (fun q => absurd q (by decide)) gL111_1
          have gL116_2 : cv_get L116 2 = some (cv_r K) := kL116 2 _ (by decide) (fun q => absurd q (by decide)) gL111_2
          have gL116_3 : cv_get L116 3 = some (cv_i F) := kL116 3 _ (by decide) (fun q => absurd q (by decide)) gL111_3
          have gL116_4 : cv_get L116 4 = some (cv_i N) := kL116 4 _ (by decide) (fun q => absurd q (by decide)) gL111_4
          have gL116_5 : cv_get L116 5 = some (cv_i W) := kL116 5 _ (by decide) (fun _ => rfl) gL111_5
          refine ex_go oq_X2_pass_40 (t := 24) rfl rfl ?_
          refine ex_ilw oq_X2_pass_24 gL116_6 ?_
          refine ex_ic oq_X2_pass_26 (m := 3) (by decide) (fun x117 hx117 => ?_)
          refine ex_if oq_X2_pass_27 (t := 43) rfl rfl (fun (c118 : x117.toInt ≤ x115.toInt) => ?_) (fun (c118 : ¬ (x117.toInt ≤ x115.toInt)) => ?_)
          · exfalso; omega
          · refine ex_al oq_X2_pass_30 gL116_0 ?_
            refine ex_al oq_X2_pass_31 gL116_1 ?_
            refine ex_ilw oq_X2_pass_32 gL116_6 ?_
            refine ex_cv oq_X2_pass_34 (by decide) Th114 (k := 55) (d := 2) (as := [cv_r b, cv_i x115]) (stk := []) rfl rfl rfl rfl rfl rfl ⟨rfl, rfl⟩ (R := fun o => ∃ hb : cv_H, o = (none, hb) ∧ cw_T G hb ∧ zG3 h114 hb ∧ ri_at hb 58 2 = gLw (LL 2) (gNm T γ (gFirm g W.toInt) W.toInt 0) ∧ ∀ i, i ≠ 2 → ri_at hb 58 i = ri_at h114 58 i) (cl_refresh hb hRC hRA hRB hRN ((zH4_at Dh114 hb (by decide)).trans ((zPF_at hF hK hb (by decide)).trans pC)) ((zH4_at Dh114 hb (by decide)).trans ((zPF_at hF hK hb (by decide)).trans pA)) ((zH4_at Dh114 hb (by decide)).trans ((zPF_at hF hK hb (by decide)).trans pB)) ((zH4_at Dh114 hb (by decide)).trans ((zPF_at hF hK hb (by decide)).trans pN)) Th114 (l := 2) (by omega) (by omega) Nh114 hNb Ph114 (zLw_eq (hLw 2 (by decide)) (fun k i hk => by rcases hk with rfl | rfl | rfl | rfl <;> exact (zH4_ri Dh114 (by assumption) (by decide)).trans (zPF_ri hF hK (by assumption) (by decide)))) c2h114 (fun hb b1 b2 b3 b4 => ⟨hb, rfl, b1, b2, b3, b4⟩)) (fun o ho => ?_)
            obtain ⟨h119, rfl, Th119, zh119, g2h119, nh119⟩ := ho
            show cw_X _ _ _ _ _ [] h119
            have Dh119 := zH4_tr Dh114 (zH4_g zh119)
            have Ph119 := zLP_g zh119 Ph114
            have Nh119 : ∀ j, j < 10 → rl_at h119 56 j = (gNm T γ (gFirm g W.toInt) W.toInt 0) j := fun j hj => (rl_eq (zG3_at zh119 (by decide) (by decide) (by decide))).trans (Nh114 j hj)
            have g0h119 := (nh119 0 (by decide)).trans g0h114
            have g1h119 := (nh119 1 (by decide)).trans g1h114
            refine ex_incA oq_X2_pass_37 (v := x115) (m := 1) gL116_6 (by decide) (by omega) (fun L121 x120 hx120 gL121_6 kL121 => ?_)
            have gL121_0 : cv_get L121 0 = some (cv_r 55) := kL121 0 _ (by decide) (fun q => absurd q (by decide)) gL116_0
            have gL121_1 : cv_get L121 1 = some (cv_r b) := kL121 1 _ (by decide) (fun q => absurd q (by decide)) gL116_1
            have gL121_2 : cv_get L121 2 = some (cv_r K) := kL121 2 _ (by decide) (fun q => absurd q (by decide)) gL116_2
            have gL121_3 : cv_get L121 3 = some (cv_i F) := kL121 3 _ (by decide) (fun q => absurd q (by decide)) gL116_3
            have gL121_4 : cv_get L121 4 = some (cv_i N) := kL121 4 _ (by decide) (fun q => absurd q (by decide)) gL116_4
            have gL121_5 : cv_get L121 5 = some (cv_i W) := kL121 5 _ (by decide) (fun _ => rfl) gL116_5
            refine ex_go oq_X2_pass_40 (t := 24) rfl rfl ?_
            refine ex_ilw oq_X2_pass_24 gL121_6 ?_
            refine ex_ic oq_X2_pass_26 (m := 3) (by decide) (fun x122 hx122 => ?_)
            refine ex_if oq_X2_pass_27 (t := 43) rfl rfl (fun (c123 : x122.toInt ≤ x120.toInt) => ?_) (fun (c123 : ¬ (x122.toInt ≤ x120.toInt)) => ?_)
            · refine ex_al oq_X2_pass_43 gL121_0 ?_
              refine ex_ic oq_X2_pass_44 (m := 0) (by decide) (fun x124 hx124 => ?_)
              refine ex_pfi oq_X2_pass_45 Th119 (k := 55) (d := 2) rfl rfl rfl (cw_i32 _).1 (cw_i32 _).2 (fun h125 Th125 wh125 => ?_)
              have eh125_55_3 : ri_at h125 55 3 = x124.toInt := ri_self wh125
              have Dh125 := zH4_tr Dh119 (zH4_w wh125)
              have g0h125 : ri_at h125 58 0 = gLw (LL 0) (gNm T γ (gFirm g W.toInt) W.toInt 0) := (ri_ne wh125 (.inl (by decide))).trans g0h119
              have g1h125 : ri_at h125 58 1 = gLw (LL 1) (gNm T γ (gFirm g W.toInt) W.toInt 0) := (ri_ne wh125 (.inl (by decide))).trans g1h119
              have g2h125 : ri_at h125 58 2 = gLw (LL 2) (gNm T γ (gFirm g W.toInt) W.toInt 0) := (ri_ne wh125 (.inl (by decide))).trans g2h119
              have Nh125 : ∀ j, j < 10 → rl_at h125 56 j = (gNm T γ (gFirm g W.toInt) W.toInt 0) j := fun j hj => (rl_ne wh125 (.inl (by decide))).trans (Nh119 j hj)
              refine ex_al oq_X2_pass_48 gL121_2 ?_
              refine ex_al oq_X2_pass_49 gL121_0 ?_
              refine ex_gf oq_X2_pass_50 Th125 (k := 55) (d := 2) rfl rfl (ri_ref (k := 55) (k' := 58) (d := 2) (f := 2) Th125 rfl rfl rfl (by decide) (ri_uniq (by decide +kernel))) ?_
              refine ex_ic oq_X2_pass_53 (m := 0) (by decide) (fun x126 hx126 => ?_)
              refine ex_ia1 oq_X2_pass_54 Th125 (k := 58) (d := 19) (j := 0) rfl rfl (by omega) (by omega) (fun x127 hx127 lx127 ux127 => ?_)
              have hx127 : x127.toInt = gLw (LL 0) (gNm T γ (gFirm g W.toInt) W.toInt 0) := hx127.symm.trans g0h125
              refine ex_al oq_X2_pass_55 gL121_0 ?_
              refine ex_gf oq_X2_pass_56 Th125 (k := 55) (d := 2) rfl rfl (ri_ref (k := 55) (k' := 58) (d := 2) (f := 2) Th125 rfl rfl rfl (by decide) (ri_uniq (by decide +kernel))) ?_
              refine ex_ic oq_X2_pass_59 (m := 1) (by decide) (fun x128 hx128 => ?_)
              refine ex_ia1 oq_X2_pass_60 Th125 (k := 58) (d := 19) (j := 1) rfl rfl (by omega) (by omega) (fun x129 hx129 lx129 ux129 => ?_)
              have hx129 : x129.toInt = gLw (LL 1) (gNm T γ (gFirm g W.toInt) W.toInt 0) := hx129.symm.trans g1h125
              refine ex_al oq_X2_pass_61 gL121_0 ?_
              refine ex_gf oq_X2_pass_62 Th125 (k := 55) (d := 2) rfl rfl (ri_ref (k := 55) (k' := 58) (d := 2) (f := 2) Th125 rfl rfl rfl (by decide) (ri_uniq (by decide +kernel))) ?_
              refine ex_ic oq_X2_pass_65 (m := 2) (by decide) (fun x130 hx130 => ?_)
              refine ex_ia1 oq_X2_pass_66 Th125 (k := 58) (d := 19) (j := 2) rfl rfl (by omega) (by omega) (fun x131 hx131 lx131 ux131 => ?_)
              have hx131 : x131.toInt = gLw (LL 2) (gNm T γ (gFirm g W.toInt) W.toInt 0) := hx131.symm.trans g2h125
              have gb0 := gLw_b (o := LL 0) (N := (gNm T γ (gFirm g W.toInt) W.toInt 0))
              have gb1 := gLw_b (o := LL 1) (N := (gNm T γ (gFirm g W.toInt) W.toInt 0))
              have gb2 := gLw_b (o := LL 2) (N := (gNm T γ (gFirm g W.toInt) W.toInt 0))
              refine ex_cv oq_X2_pass_67 (by decide) Th125 (k := K) (d := 1) (as := [cv_i x127, cv_i x129, cv_i x131]) (stk := []) hK rfl rfl rfl rfl rfl ⟨rfl, rfl⟩ (R := fun o => ∃ hb : cv_H, o = (none, hb) ∧ cw_T G hb ∧ cp_F K h125 hb ∧ zGV hb K (gGrow γ x127.toInt x129.toInt x131.toInt) ∧ cw_at hb K 0 = some (cv_r U)) (cg_grow Th125 hK hU ((zH4_at Dh125 hK (by decide)).trans hp) (fun j hj => (zH4_ri Dh125 hK (by decide)).trans (gv j hj)) rG (by omega) (by omega) (by omega) (fun hb b1 b2 b3 b4 => ⟨hb, rfl, b1, b2, b3, b4⟩)) (fun o ho => ?_)
              obtain ⟨h132, rfl, Th132, fh132, gvh132, hph132⟩ := ho
              show cw_X _ _ _ _ _ [] h132
              rw [show x127.toInt = gLw (LL 0) (gNm T γ (gFirm g W.toInt) W.toInt 0) from by omega, show x129.toInt = gLw (LL 1) (gNm T γ (gFirm g W.toInt) W.toInt 0) from by omega, show x131.toInt = gLw (LL 2) (gNm T γ (gFirm g W.toInt) W.toInt 0) from by omega] at gvh132
              refine ex_incA oq_X2_pass_70 (v := W) (m := 1) gL121_5 (by decide) (by omega) (fun L134 x133 hx133 gL134_5 kL134 => ?_)
              have gL134_6 : cv_get L134 6 = some (cv_i x120) := kL134 6 _ (by decide) (fun q => absurd q (by decide)) gL121_6
              have gL134_0 : cv_get L134 0 = some (cv_r 55) := kL134 0 _ (by decide) (fun q => absurd q (by decide)) gL121_0
              have gL134_1 : cv_get L134 1 = some (cv_r b) := kL134 1 _ (by decide) (fun q => absurd q (by decide)) gL121_1
              have gL134_2 : cv_get L134 2 = some (cv_r K) := kL134 2 _ (by decide) (fun q => absurd q (by decide)) gL121_2
              have gL134_3 : cv_get L134 3 = some (cv_i F) := kL134 3 _ (by decide) (fun q => absurd q (by decide)) gL121_3
              have gL134_4 : cv_get L134 4 = some (cv_i N) := kL134 4 _ (by decide) (fun _ => rfl) gL121_4
              refine ex_go oq_X2_pass_73 (t := 3) rfl rfl ?_
              have K55 := cw_kne (k := 55) (d := 2) (k' := K) (d' := 1) rfl hK (by decide)
              have K56 := cw_kne (k := 56) (d := 17) (k' := K) (d' := 1) rfl hK (by decide)
              have K58 := cw_kne (k := 58) (d := 19) (k' := K) (d' := 1) rfl hK (by decide)
              exact ih _ x133 h132 L134 (by omega) (by omega) Th132 (zPF_tr hF (zPF_h hK Dh125 fh132)) gvh132 (gGrow_R rG gb0 gb1 gb2) hph132 ⟨(gNm T γ (gFirm g W.toInt) W.toInt 0), .inr ⟨0, by decide, (ri_eq (cp_at fh132 K55)).trans ((ri_self wh125).trans (by omega)), fun j hj _ => (rl_eq (cp_at fh132 K56)).trans (Nh125 j hj)⟩, fun l hl => .inr (by
                have : l = 0 ∨ l = 1 ∨ l = 2 := by omega
                rcases this with rfl | rfl | rfl
                · exact (ri_eq (cp_at fh132 K58)).trans g0h125
                · exact (ri_eq (cp_at fh132 K58)).trans g1h125
                · exact (ri_eq (cp_at fh132 K58)).trans g2h125)⟩ (by rw [← hR]; show gPs T g LL n x133.toInt _ = gPs T g LL n (W.toInt + 1) _; rw [show x133.toInt = W.toInt + 1 from by omega]; rfl) gL134_0 gL134_1 gL134_2 gL134_3 gL134_4 gL134_5
            · exfalso; omega
theorem oq_X2_pass_0 : cw_ho 32 0 (.iload_n 3) 1 0 0 0 := rfl
theorem oq_X2_pass_1 : cw_ho 32 1 (.istore 5) 2 0 0 0 := rfl
theorem cl_pass (hb : cw_sh[b]? = some 4) (hRC : cw_sh[RC]? = some 29) (hRA : cw_sh[RA]? = some 30) (hRB : cw_sh[RB]? = some 31) (hRN : cw_sh[RN]? = some 32) (hRG : cw_sh[RG]? = some 28) (hK : cw_sh[K]? = some 1) (hU : cw_sh[U]? = some 7) (pC : cw_at h0 b 1 = some (cv_r RC)) (pA : cw_at h0 b 4 = some (cv_r RA)) (pB : cw_at h0 b 5 = some (cv_r RB)) (pN : cw_at h0 b 6 = some (cv_r RN)) (pG : cw_at h0 b 0 = some (cv_r RG)) (hG : ∀ j, j < 12 → ri_at h0 RG j = g j) (hg : ∀ j, 0 ≤ g j ∧ g j ≤ 100) (tT : zTV h0 U T) (rT : gTR T) (hLw : ∀ l, l < 3 → zLw h0 RC RA RB RN l (LL l)) (hT : cw_T G h0) {F N : Int32} {n : Nat} (hN : N.toInt = n) (hFN : 0 ≤ F.toInt ∧ F.toInt ≤ 1000000 ∧ n ≤ 1000000) {γ : Nat → Int} (gv : zGV h0 K γ) (rG : gGR γ) (hp : cw_at h0 K 0 = some (cv_r U)) (hLC : zLC h0 LL) (hQ : ∀ h', cw_T G h' → zPF K h0 h' → zGV h' K (gPs T g LL n F.toInt γ) → cw_at h' K 0 = some (cv_r U) → zLC h' LL → Q (none, h')) : cw_X X 32 Q 0 (cv_ent 0 [cv_r 55, cv_r b, cv_r K, cv_i F, cv_i N]) [] h0 := by
  refine ex_il oq_X2_pass_0 rfl ?_
  refine ex_iswA oq_X2_pass_1 (fun L11 gL11_5 kL11 => ?_)
  have gL11_0 : cv_get L11 0 = some (cv_r 55) := kL11 0 _ (by decide) (fun q => absurd q (by decide)) rfl
  have gL11_1 : cv_get L11 1 = some (cv_r b) := kL11 1 _ (by decide) (fun q => absurd q (by decide)) rfl
  have gL11_2 : cv_get L11 2 = some (cv_r K) := kL11 2 _ (by decide) (fun q => absurd q (by decide)) rfl
  have gL11_3 : cv_get L11 3 = some (cv_i F) := kL11 3 _ (by decide) (fun q => absurd q (by decide)) rfl
  have gL11_4 : cv_get L11 4 = some (cv_i N) := kL11 4 _ (by decide) (fun _ => rfl) rfl
  exact ps_lp hb hRC hRA hRB hRN hRG hK hU pC pA pB pN pG hG hg tT rT hLw (F := F) (N := N) ⟨hFN.1, hFN.2.1, by omega, by omega⟩ hQ n γ F h0 L11 (by omega) (Int.le_refl _) hT zPF_0 gv rG hp hLC rfl gL11_0 gL11_1 gL11_2 gL11_3 gL11_4 gL11_5
end PS
end GN
