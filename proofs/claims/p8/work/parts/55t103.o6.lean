/-! ===== a text of the class, with all that it tells ===== -/
section TE
variable {b : Nat} {h h' : cv_H} {s : zSg} {d : zDt}
theorem zSC_e (hb : b = 2 ∨ b = 26) (e : ∀ k i, 1 ≤ k → k ≤ 54 → ri_at h' k i = ri_at h k i) (a : zSC b h s) : zSC b h' s := by
  obtain ⟨a1, a2, a3, a4, a5, a6, a7⟩ := a
  refine ⟨(e 50 3 (by decide) (by decide)).trans a1, zLT_eq a2 (fun i => e _ i (by omega) (by omega)) (fun i => e _ i (by omega) (by omega)), ⟨(e b 2 (by omega) (by omega)).trans a3.1, (e b 3 (by omega) (by omega)).trans a3.2.1, a3.2.2⟩, ⟨(e b 9 (by omega) (by omega)).trans a4.1, zNm_eq a4.2 (fun i => e _ i (by omega) (by omega))⟩, ⟨(e b 14 (by omega) (by omega)).trans a5.1, zNm_eq a5.2 (fun i => e _ i (by omega) (by omega))⟩, ⟨(e b 19 (by omega) (by omega)).trans a6.1, zNm_eq a6.2 (fun i => e _ i (by omega) (by omega))⟩, fun i hi hi4 => ⟨(e _ 14 (by omega) (by omega)).trans (a7 i hi hi4).1, (e _ 15 (by omega) (by omega)).trans (a7 i hi hi4).2⟩⟩
theorem zWD_e (hb : b = 2 ∨ b = 26) (e : ∀ k i, b ≤ k → k < b + 24 → ri_at h' k i = ri_at h k i) (a : zWD b h s d) : zWD b h' s d := by
  obtain ⟨a1, a2, a3, a4, a5⟩ := a
  refine ⟨a1, ⟨(e b 2 (by omega) (by omega)).trans a2.1, fun o q => zNm_eq (a2.2 o q) (fun i => e _ i (by omega) (by simp at q; omega))⟩, ⟨fun j q => (e _ j (by omega) (by omega)).trans (a3.1 j q), fun o q j r => (e _ j (by omega) (by simp at q; omega)).trans (a3.2 o q j r)⟩, fun i hi => ?_, fun i hi hi4 => ⟨fun j q => (e _ j (by omega) (by omega)).trans ((a5 i hi hi4).1 j q), fun j q => (e _ j (by omega) (by omega)).trans ((a5 i hi hi4).2 j q)⟩⟩
  obtain ⟨⟨t1, t2⟩, t3⟩ := a4 i hi
  exact ⟨⟨fun j q => (e _ j (by omega) (by omega)).trans (t1 j q), fun j q => (e _ j (by omega) (by omega)).trans (t2 j q)⟩, (e _ 14 (by omega) (by omega)).trans t3⟩
theorem zPM_w {k i : Nat} {v : cv_V} (hb : b = 2 ∨ b = 26) (hk : k = 0 ∨ 50 ≤ k) (w : cw_Wr h h' k i v) (a : zPM b h) : zPM b h' := ⟨fun j q => (w.2.1 b j (.inl (by omega))).trans (a.1 j q), fun j q => (w.2.1 (b + 6) j (.inl (by omega))).trans (a.2 j q)⟩
theorem zPM_h (e : ∀ k : Nat, b ≤ k → k < b + 24 → h'[k]? = h[k]?) (a : zPM b h) : zPM b h' := ⟨fun j q => (at_h (e b (by omega) (by omega))).trans (a.1 j q), fun j q => (at_h (e (b + 6) (by omega) (by omega))).trans (a.2 j q)⟩
end TE
/-- laws forgotten -/
def zFG (h h' : cv_H) : Prop := (∀ k : Nat, k ≠ 55 → k ≠ 58 → h'[k]? = h[k]?) ∧ (∀ i, i ≠ 3 → cw_at h' 55 i = cw_at h 55 i) ∧ ri_at h' 55 3 = -1 ∧ ∀ l, l < 3 → ri_at h' 58 l = 0
theorem zFG_L {h h' : cv_H} {LL : Nat → Option (List Int)} (a : zFG h h') : zLC h' LL := ⟨fun _ => 0, .inl a.2.2.1, fun l q => .inl ⟨a.2.2.1, fun _ => a.2.2.2 l q⟩⟩
/-- what a text taken makes of the class, besides its plan -/
def gB0 (h : cv_H) (b : Nat) (dk dv : List Int) (n g : Nat) : Nat → Int := gBegin (fun j => ri_at h (b + 16 + 2 * g) j) (zMs dk dv (ri_at h (b + 16 + 2 * g) 14).toNat 0 n) (zMs dk dv (ri_at h (b + 16 + 2 * g) 14).toNat 1 n) (zMs dk dv (ri_at h (b + 16 + 2 * g) 14).toNat 2 n)
def zTS (h h' : cv_H) (pl sp : Nat) (dk dv : List Int) (n : Nat) : Prop := (∀ k : Nat, k ≠ 0 → k ≠ 55 → k ≠ 58 → k ≠ 63 → k ≠ 86 → (∀ g, g < 4 → k ≠ 103 + 2 * g) → h'[k]? = h[k]?) ∧ (∀ i, i ≠ 2 → i ≠ 3 → i ≠ 8 → i ≠ 10 → cw_at h' 0 i = cw_at h 0 i) ∧ cw_at h' 0 2 = some (cv_r sp) ∧ cw_at h' 0 3 = some (cv_r pl) ∧ ri_at h' 0 8 = 0 ∧ ri_at h' 0 10 = -1 ∧ ri_at h' 55 3 = -1 ∧ (∀ l, l < 3 → ri_at h' 58 l = 0) ∧ ri_at h' 63 2 = 0 ∧ ri_at h' 86 9 = 0 ∧ ri_at h' 86 10 = -1 ∧ ∀ g, g < 4 → zGV h' (103 + 2 * g) (gB0 h sp dk dv n g) ∧ cw_at h' (103 + 2 * g) 0 = some (cv_r (sp + 16 + 2 * g))
section GN
variable {G : Int} {X : cv_X} {Q : cv_O → Prop} {h0 h : cv_H}
theorem oq_X2_forget_7 : cw_ho 29 7 (.iload_n 1) 1 0 0 0 := rfl
theorem oq_X2_forget_8 : cw_ho 29 8 (.iconst 3) 1 0 0 0 := rfl
theorem oq_X2_forget_9 : cw_ho 29 9 (.if_icmp .ge 16) 3 0 0 0 := rfl
theorem oq_X2_forget_12 : cw_ho 29 12 (.aload_n 0) 1 0 0 0 := rfl
theorem oq_X2_forget_13 : cw_ho 29 13 (.getfield 18) 3 2 2 4 := rfl
theorem oq_X2_forget_16 : cw_ho 29 16 (.iload_n 1) 1 0 0 0 := rfl
theorem oq_X2_forget_17 : cw_ho 29 17 (.iconst 0) 1 0 0 0 := rfl
theorem oq_X2_forget_18 : cw_ho 29 18 (.iastore) 1 0 0 0 := rfl
theorem oq_X2_forget_19 : cw_ho 29 19 (.iinc 1 1) 3 0 0 0 := rfl
theorem oq_X2_forget_22 : cw_ho 29 22 (.goto (-15)) 3 0 0 0 := rfl
theorem oq_X2_forget_25 : cw_ho 29 25 (.return_) 1 0 0 0 := rfl
theorem cf_lp (hQ : ∀ h', cw_T G h' → cp_F 58 h0 h' → (∀ l, l < 3 → ri_at h' 58 l = 0) → Q (none, h')) : ∀ (f i : Nat) (I : Int32) (h : cv_H) (L : cv_L), 3 - i = f → i ≤ 3 → I.toInt = i → cw_T G h → cp_F 58 h0 h → (∀ l, l < i → ri_at h 58 l = 0) → cv_get L 0 = some (cv_r 55) → cv_get L 1 = some (cv_i I) → cw_X X 29 Q 7 L [] h := by
  intro f
  induction f with
  | zero =>
    intro i I h L hf hi hI' hT hF hI g0 g1
    refine ex_il oq_X2_forget_7 g1 ?_
    refine ex_ic oq_X2_forget_8 (m := 3) (by decide) (fun x101 hx101 => ?_)
    refine ex_if oq_X2_forget_9 (t := 25) rfl rfl (fun (c102 : x101.toInt ≤ I.toInt) => ?_) (fun (c102 : ¬ (x101.toInt ≤ I.toInt)) => ?_)
    · exact ex_retv oq_X2_forget_25 rfl (hQ h hT hF (fun l q => hI l (by omega)))
    · exfalso; omega
  | succ f ih =>
    intro i I h L hf hi hI' hT hF hI g0 g1
    refine ex_il oq_X2_forget_7 g1 ?_
    refine ex_ic oq_X2_forget_8 (m := 3) (by decide) (fun x101 hx101 => ?_)
    refine ex_if oq_X2_forget_9 (t := 25) rfl rfl (fun (c102 : x101.toInt ≤ I.toInt) => ?_) (fun (c102 : ¬ (x101.toInt ≤ I.toInt)) => ?_)
    · exfalso; omega
    · refine ex_al oq_X2_forget_12 g0 ?_
      refine ex_gf oq_X2_forget_13 hT (k := 55) (d := 2) rfl rfl (ri_ref (k := 55) (k' := 58) (d := 2) (f := 2) hT rfl rfl rfl (by decide) (ri_uniq (by decide +kernel))) ?_
      refine ex_il oq_X2_forget_16 g1 ?_
      refine ex_ic oq_X2_forget_17 (m := 0) (by decide) (fun x103 hx103 => ?_)
      refine ex_iw1 oq_X2_forget_18 hT (k := 58) (d := 19) (j := i) rfl rfl (by omega) (by omega) ⟨(cw_i32 _).1, (cw_i32 _).2⟩ (fun h104 Th104 wh104 => ?_)
      refine ex_incA oq_X2_forget_19 (v := I) (m := 1) g1 (by decide) (by omega) (fun L106 x105 hx105 gL106_1 kL106 => ?_)
      have gL106_0 : cv_get L106 0 = some (cv_r 55) := kL106 0 _ (by decide) (fun _ => rfl) g0
      refine ex_go oq_X2_forget_22 (t := 7) rfl rfl ?_
      refine ih (i + 1) x105 h104 L106 (by omega) (by omega) (by omega) Th104 (cp_w wh104 hF) (fun l q => ?_) gL106_0 gL106_1
      by_cases cl : l = i
      · subst cl; exact (ri_self wh104).trans (by omega)
      · exact (ri_ne wh104 (.inr cl)).trans (hI l (by omega))
theorem oq_X2_forget_0 : cw_ho 29 0 (.aload_n 0) 1 0 0 0 := rfl
theorem oq_X2_forget_1 : cw_ho 29 1 (.iconst (-1)) 1 0 0 0 := rfl
theorem oq_X2_forget_2 : cw_ho 29 2 (.putfield 22) 3 2 3 0 := rfl
theorem oq_X2_forget_5 : cw_ho 29 5 (.iconst 0) 1 0 0 0 := rfl
theorem oq_X2_forget_6 : cw_ho 29 6 (.istore_n 1) 1 0 0 0 := rfl
theorem cf_forget (hT : cw_T G h) (hQ : ∀ h', cw_T G h' → zFG h h' → Q (none, h')) : cw_X X 29 Q 0 (cv_ent 0 [cv_r 55]) [] h := by
  refine ex_al oq_X2_forget_0 rfl ?_
  refine ex_ic oq_X2_forget_1 (m := (-1)) (by decide) (fun x201 hx201 => ?_)
  refine ex_pfi oq_X2_forget_2 hT (k := 55) (d := 2) rfl rfl rfl (cw_i32 _).1 (cw_i32 _).2 (fun h202 Th202 wh202 => ?_)
  have eh202_55_3 : ri_at h202 55 3 = x201.toInt := ri_self wh202
  refine ex_ic oq_X2_forget_5 (m := 0) (by decide) (fun x203 hx203 => ?_)
  refine ex_isA oq_X2_forget_6 (fun L204 gL204_1 kL204 => ?_)
  have gL204_0 : cv_get L204 0 = some (cv_r 55) := kL204 0 _ (by decide) (fun _ => rfl) rfl
  exact cf_lp (fun h' b1 b2 b3 => hQ h' b1 ⟨fun k p q => (b2 k q).trans (wh202.2.2 k p), fun i p => (cp_at b2 (by decide)).trans (wh202.2.1 55 i (.inr p)), (ri_eq (cp_at b2 (by decide))).trans ((ri_self wh202).trans (by omega)), b3⟩) 3 0 x203 h202 L204 (by decide) (by decide) (by omega) Th202 cp_0 (fun l q => absurd q (by omega)) gL204_0 gL204_1
theorem cn_clr (hT : cw_T G h) (hQ : ∀ h', cw_T G h' → cp_F 86 h h' → (∀ i, i ≠ 9 → i ≠ 10 → cw_at h' 86 i = cw_at h 86 i) → ri_at h' 86 9 = 0 → ri_at h' 86 10 = -1 → Q (none, h')) : cw_X X 41 Q 0 (cv_ent 0 [cv_r 86]) [] h := by
  refine ex_al oq_X3_clear_0 rfl ?_
  refine ex_ic oq_X3_clear_1 (m := 0) (by decide) (fun x101 hx101 => ?_)
  refine ex_pfi oq_X3_clear_2 hT (k := 86) (d := 3) rfl rfl rfl (by omega) (by omega) (fun h102 Th102 wh102 => ?_)
  refine ex_al oq_X3_clear_5 rfl ?_
  refine ex_ic oq_X3_clear_6 (m := (-1)) (by decide) (fun x103 hx103 => ?_)
  refine ex_pfi oq_X3_clear_7 Th102 (k := 86) (d := 3) rfl rfl rfl (by omega) (by omega) (fun h104 Th104 wh104 => ?_)
  exact ex_retv oq_X3_clear_10 rfl (hQ h104 Th104 (fun k p => (wh104.2.2 k p).trans (wh102.2.2 k p)) (fun i p q => (wh104.2.1 86 i (.inr q)).trans (wh102.2.1 86 i (.inr p))) ((ri_ne wh104 (.inr (by decide))).trans ((ri_self wh102).trans (by omega))) ((ri_self wh104).trans (by omega)))
section TS
variable {sp n : Nat} {dk dv : List Int}
/-- gates begun -/
def zGB (sp n : Nat) (dk dv : List Int) (h0 h : cv_H) (i : Nat) : Prop := (∀ k : Nat, (∀ g, g < 4 → k ≠ 103 + 2 * g) → h[k]? = h0[k]?) ∧ ∀ g, g < i → zGV h (103 + 2 * g) (gB0 h0 sp dk dv n g) ∧ cw_at h (103 + 2 * g) 0 = some (cv_r (sp + 16 + 2 * g))
theorem zGB_s {h0 h h' : cv_H} {i : Nat} (I : zGB sp n dk dv h0 h i) (hi : i < 4) (c : cp_F (103 + 2 * i) h h') (V : zGV h' (103 + 2 * i) (gB0 h0 sp dk dv n i)) (p : cw_at h' (103 + 2 * i) 0 = some (cv_r (sp + 16 + 2 * i))) : zGB sp n dk dv h0 h' (i + 1) := by
  refine ⟨fun k q => (c k (q i hi)).trans (I.1 k q), fun g hg => ?_⟩
  by_cases cg : g = i
  · subst cg; exact ⟨V, p⟩
  · have e : h'[103 + 2 * g]? = h[103 + 2 * g]? := c _ (by omega)
    have s := I.2 g (by omega)
    exact ⟨zGV_h e s.1, (at_h e).trans s.2⟩
theorem ts_lp (hs4 : cw_sh[sp]? = some 4) (hpm : zPM sp h0) (hn : ri_at h0 sp 19 = n) (hn6 : n ≤ 6) (d1 : ∀ c, c < n → ri_at h0 (sp + 14) c = dk.getD c 0) (d2 : ∀ c, c < n → ri_at h0 (sp + 15) c = dv.getD c 0) (hv : ∀ c, 0 ≤ dv.getD c 0 ∧ dv.getD c 0 ≤ 999) (h14 : ∀ g, g < 4 → 0 ≤ ri_at h0 (sp + 16 + 2 * g) 14 ∧ ri_at h0 (sp + 16 + 2 * g) 14 < 64) (kC : zKC h0) (hp2 : cw_at h0 0 2 = some (cv_r sp)) (kk : ∀ h L, cw_T G h → zGB sp n dk dv h0 h 4 → cv_get L 0 = some (cv_r 0) → cw_X X 110 Q 52 L [] h) : ∀ (f i : Nat) (I : Int32) (h : cv_H) (L : cv_L), 4 - i = f → i ≤ 4 → I.toInt = i → cw_T G h → zGB sp n dk dv h0 h i → cv_get L 0 = some (cv_r 0) → cv_get L 2 = some (cv_i I) → cw_X X 110 Q 27 L [] h := by
  have hs226 := sh_4 hs4
  intro f
  induction f with
  | zero =>
    intro i I h L hf hi hI' hT hI g0 g2
    refine ex_il oq_X11_takeSpare_27 g2 ?_
    refine ex_ic oq_X11_takeSpare_28 (m := 4) (by decide) (fun x101 hx101 => ?_)
    refine ex_if oq_X11_takeSpare_29 (t := 52) rfl rfl (fun (c102 : x101.toInt ≤ I.toInt) => ?_) (fun (c102 : ¬ (x101.toInt ≤ I.toInt)) => ?_)
    · exact kk h L hT (by rw [show i = 4 from by omega] at hI; exact hI) g0
    · exfalso; omega
  | succ f ih =>
    intro i I h L hf hi hI' hT hI g0 g2
    refine ex_il oq_X11_takeSpare_27 g2 ?_
    refine ex_ic oq_X11_takeSpare_28 (m := 4) (by decide) (fun x101 hx101 => ?_)
    refine ex_if oq_X11_takeSpare_29 (t := 52) rfl rfl (fun (c102 : x101.toInt ≤ I.toInt) => ?_) (fun (c102 : ¬ (x101.toInt ≤ I.toInt)) => ?_)
    · exfalso; omega
    · refine ex_al oq_X11_takeSpare_32 g0 ?_
      refine ex_gf oq_X11_takeSpare_33 hT (k := 0) (d := 11) rfl rfl (ri_ref (k := 0) (k' := 61) (d := 11) (f := 7) hT rfl rfl rfl (by decide) (ri_uniq (by decide +kernel))) ?_
      refine ex_il oq_X11_takeSpare_36 g2 ?_
      have hK1 := (sh_gt (g := i) (by omega)).1
      refine ex_aa oq_X11_takeSpare_37 hT (k := 61) (d := 14) (j := i) rfl rfl (by omega) (by omega) (fun k104 ak104 sk104 => ?_)
      have ek104 : k104 = 103 + 2 * i := rk_inj (ak104.symm.trans ((at_h (hI.1 61 (fun g _ => by omega))).trans (kC i (by omega)).1))
      subst ek104
      refine ex_al oq_X11_takeSpare_38 g0 ?_
      refine ex_gf oq_X11_takeSpare_39 hT (k := 0) (d := 11) rfl rfl (((at_h (hI.1 0 (fun g _ => by omega))).trans hp2)) ?_
      refine ex_il oq_X11_takeSpare_42 g2 ?_
      have eP : ∀ k i, k < 103 → cw_at h k i = cw_at h0 k i := fun k i p => at_h (hI.1 k (fun g _ => by omega))
      have hs24 := hs226
      refine ex_cv oq_X11_takeSpare_43 (by decide) hT (k := 103 + 2 * i) (d := 1) (as := [cv_r sp, cv_i I]) (stk := []) hK1 rfl rfl rfl rfl rfl ⟨rfl, rfl⟩ (R := fun o => ∃ hb : cv_H, o = (none, hb) ∧ cw_T G hb ∧ cp_F (103 + 2 * i) h hb ∧ zGV hb (103 + 2 * i) (gB0 h0 sp dk dv n i) ∧ cw_at hb (103 + 2 * i) 0 = some (cv_r (sp + 16 + 2 * i))) (cg_begin hT hK1 (zKi_7 hs226 (by omega)) (zKi_9 hs226).1 ((eP _ _ (by omega)).trans (hpm.1 7 (by decide))) hs4 (zKi hs226).2.2.2.2.2.2.1 (zKi hs226).2.2.2.2.2.2.2 ((eP _ _ (by omega)).trans (hpm.1 17 (by decide))) ((eP _ _ (by omega)).trans (hpm.1 18 (by decide))) ((ri_eq (eP _ _ (by omega))).trans hn) hn6 (fun c q => (ri_eq (eP _ _ (by omega))).trans (d1 c q)) (fun c q => (ri_eq (eP _ _ (by omega))).trans (d2 c q)) hv (gi := i) (by omega) (by omega) ((eP _ _ (by omega)).trans (hpm.2 i (by omega))) (T := fun j => ri_at h0 (sp + 16 + 2 * i) j) (fun j _ => ri_eq (eP _ _ (by omega))) (S := (ri_at h0 (sp + 16 + 2 * i) 14).toNat) (by have := h14 i (by omega); omega) (by have := h14 i (by omega); omega) (fun hb b1 b2 b3 b4 => ⟨hb, rfl, b1, b2, b3, b4⟩)) (fun o ho => ?_)
      obtain ⟨h105, rfl, Th105, ch105, Vh105, ph105⟩ := ho
      show cw_X _ _ _ _ _ [] h105
      refine ex_incA oq_X11_takeSpare_46 (v := I) (m := 1) g2 (by decide) (by omega) (fun L107 x106 hx106 gL107_2 kL107 => ?_)
      have gL107_0 : cv_get L107 0 = some (cv_r 0) := kL107 0 _ (by decide) (fun q => absurd q (by decide)) g0
      refine ex_go oq_X11_takeSpare_49 (t := 27) rfl rfl ?_
      exact ih (i + 1) x106 h105 L107 (by omega) (by omega) (by omega) Th105 (zGB_s hI (by omega) ch105 Vh105 ph105) gL107_0 gL107_2
set_option maxHeartbeats 4000000 in
theorem ct_tsD (hT : cw_T G h0) (hs4 : cw_sh[sp]? = some 4) (hpm : zPM sp h0) (hn : ri_at h0 sp 19 = n) (hn6 : n ≤ 6) (d1 : ∀ c, c < n → ri_at h0 (sp + 14) c = dk.getD c 0) (d2 : ∀ c, c < n → ri_at h0 (sp + 15) c = dv.getD c 0) (hv : ∀ c, 0 ≤ dv.getD c 0 ∧ dv.getD c 0 ≤ 999) (h14 : ∀ g, g < 4 → 0 ≤ ri_at h0 (sp + 16 + 2 * g) 14 ∧ ri_at h0 (sp + 16 + 2 * g) 14 < 64) (kC : zKC h0) {pl : Nat} (hp4 : cw_sh[pl]? = some 4) (hp2 : cw_at h0 0 2 = some (cv_r pl)) (hp3 : cw_at h0 0 3 = some (cv_r sp)) (hQ : ∀ h', cw_T G h' → zTS h0 h' pl sp dk dv n → Q (none, h')) : cw_X X 110 Q 0 (cv_ent 0 [cv_r 0]) [] h0 := by
  refine ex_al oq_X11_takeSpare_0 rfl ?_
  refine ex_gf oq_X11_takeSpare_1 hT (k := 0) (d := 11) rfl rfl (hp2) ?_
  refine ex_asA oq_X11_takeSpare_4 (fun L101 gL101_1 kL101 => ?_)
  have gL101_0 : cv_get L101 0 = some (cv_r 0) := kL101 0 _ (by decide) (fun _ => rfl) rfl
  refine ex_al oq_X11_takeSpare_5 gL101_0 ?_
  refine ex_al oq_X11_takeSpare_6 gL101_0 ?_
  refine ex_gf oq_X11_takeSpare_7 hT (k := 0) (d := 11) rfl rfl (hp3) ?_
  refine ex_pfr oq_X11_takeSpare_10 hT (k := 0) (d := 11) (v := sp) rfl rfl rfl (by decide) hs4 rfl (fun h102 Th102 wh102 => ?_)
  refine ex_al oq_X11_takeSpare_13 gL101_0 ?_
  refine ex_al oq_X11_takeSpare_14 gL101_1 ?_
  refine ex_pfr oq_X11_takeSpare_15 Th102 (k := 0) (d := 11) (v := pl) rfl rfl rfl (by decide) hp4 rfl (fun h103 Th103 wh103 => ?_)
  refine ex_al oq_X11_takeSpare_18 gL101_0 ?_
  refine ex_gf oq_X11_takeSpare_19 Th103 (k := 0) (d := 11) rfl rfl (ri_ref (k := 0) (k' := 55) (d := 11) (f := 5) Th103 rfl rfl rfl (by decide) (ri_uniq (by decide +kernel))) ?_
  refine ex_cv oq_X11_takeSpare_22 (by decide) Th103 (k := 55) (d := 2) (as := []) (stk := []) rfl rfl rfl rfl rfl rfl ⟨rfl, rfl⟩ (R := fun o => ∃ hb : cv_H, o = (none, hb) ∧ cw_T G hb ∧ zFG h103 hb) (cf_forget Th103 (fun hb b1 b2 => ⟨hb, rfl, b1, b2⟩)) (fun o ho => ?_)
  obtain ⟨h104, rfl, Th104, fg⟩ := ho
  show cw_X _ _ _ _ _ [] h104
  have eA : ∀ k : Nat, k ≠ 0 → k ≠ 55 → k ≠ 58 → h104[k]? = h0[k]? := fun k p q r => (fg.1 k q r).trans ((wh103.2.2 k p).trans (wh102.2.2 k p))
  have e0 : ∀ i, i ≠ 2 → i ≠ 3 → cw_at h104 0 i = cw_at h0 0 i := fun i p q => (at_h (fg.1 0 (by decide) (by decide))).trans ((wh103.2.1 0 i (.inr q)).trans (wh102.2.1 0 i (.inr p)))
  have p2 : cw_at h104 0 2 = some (cv_r sp) := (at_h (fg.1 0 (by decide) (by decide))).trans ((wh103.2.1 0 2 (.inr (by decide))).trans wh102.1)
  have p3 : cw_at h104 0 3 = some (cv_r pl) := (at_h (fg.1 0 (by decide) (by decide))).trans wh103.1
  refine ex_ic oq_X11_takeSpare_25 (m := 0) (by decide) (fun x105 hx105 => ?_)
  refine ex_isA oq_X11_takeSpare_26 (fun L106 gL106_2 kL106 => ?_)
  have gL106_1 : cv_get L106 1 = some (cv_r pl) := kL106 1 _ (by decide) (fun _ => rfl) gL101_1
  have gL106_0 : cv_get L106 0 = some (cv_r 0) := kL106 0 _ (by decide) (fun q => absurd q (by decide)) gL101_0
  have hs226 := sh_4 hs4
  have eR : ∀ k i, k ≠ 0 → k ≠ 55 → k ≠ 58 → ri_at h104 k i = ri_at h0 k i := fun k i p q r => ri_eq (at_h (eA k p q r))
  refine ts_lp hs4 (zPM_h (fun k q r => eA k (by omega) (by omega) (by omega)) hpm) ((eR _ _ (by omega) (by omega) (by omega)).trans hn) hn6 (fun c q => (eR _ _ (by omega) (by omega) (by omega)).trans (d1 c q)) (fun c q => (eR _ _ (by omega) (by omega) (by omega)).trans (d2 c q)) hv (fun g q => by rw [eR _ _ (by omega) (by omega) (by omega)]; exact h14 g q) (fun g q => ⟨(at_h (eA 61 (by decide) (by decide) (by decide))).trans (kC g q).1, (at_h (eA 62 (by decide) (by decide) (by decide))).trans (kC g q).2⟩) p2 (fun h3 L3 T3 gB g30 => ?_) 4 0 x105 h104 L106 (by decide) (by decide) (by omega) Th104 ⟨fun _ _ => rfl, fun g q => absurd q (by omega)⟩ gL106_0 gL106_2
  refine ex_al oq_X11_takeSpare_52 g30 ?_
  refine ex_ic oq_X11_takeSpare_53 (m := 0) (by decide) (fun x107 hx107 => ?_)
  refine ex_pfi oq_X11_takeSpare_54 T3 (k := 0) (d := 11) rfl rfl rfl (by omega) (by omega) (fun h108 Th108 wh108 => ?_)
  refine ex_al oq_X11_takeSpare_57 g30 ?_
  refine ex_ic oq_X11_takeSpare_58 (m := (-1)) (by decide) (fun x109 hx109 => ?_)
  refine ex_pfi oq_X11_takeSpare_59 Th108 (k := 0) (d := 11) rfl rfl rfl (by omega) (by omega) (fun h110 Th110 wh110 => ?_)
  refine ex_al oq_X11_takeSpare_62 g30 ?_
  refine ex_gf oq_X11_takeSpare_63 Th110 (k := 0) (d := 11) rfl rfl (ri_ref (k := 0) (k' := 63) (d := 11) (f := 11) Th110 rfl rfl rfl (by decide) (ri_uniq (by decide +kernel))) ?_
  refine ex_cv oq_X11_takeSpare_66 (by decide) Th110 (k := 63) (d := 10) (as := []) (stk := []) rfl rfl rfl rfl rfl rfl ⟨rfl, rfl⟩ (R := fun o => ∃ hb : cv_H, o = (none, hb) ∧ cw_T G hb ∧ ∃ z : Int32, z.toInt = 0 ∧ cw_Wr h110 hb 63 2 (cv_i z)) (cu_clr Th110 (fun hb z b1 b2 b3 => ⟨hb, rfl, b1, z, b2, b3⟩)) (fun o ho => ?_)
  obtain ⟨h111, rfl, Th111, zu, yu, wu⟩ := ho
  show cw_X _ _ _ _ _ [] h111
  refine ex_al oq_X11_takeSpare_69 g30 ?_
  refine ex_gf oq_X11_takeSpare_70 Th111 (k := 0) (d := 11) rfl rfl (ri_ref (k := 0) (k' := 86) (d := 11) (f := 12) Th111 rfl rfl rfl (by decide) (ri_uniq (by decide +kernel))) ?_
  refine ex_cv oq_X11_takeSpare_73 (by decide) Th111 (k := 86) (d := 3) (as := []) (stk := []) rfl rfl rfl rfl rfl rfl ⟨rfl, rfl⟩ (R := fun o => ∃ hb : cv_H, o = (none, hb) ∧ cw_T G hb ∧ cp_F 86 h111 hb ∧ (∀ i, i ≠ 9 → i ≠ 10 → cw_at hb 86 i = cw_at h111 86 i) ∧ ri_at hb 86 9 = 0 ∧ ri_at hb 86 10 = -1) (cn_clr Th111 (fun hb b1 b2 b3 b4 b5 => ⟨hb, rfl, b1, b2, b3, b4, b5⟩)) (fun o ho => ?_)
  obtain ⟨h112, rfl, Th112, cn, c86, n9, n10⟩ := ho
  show cw_X _ _ _ _ _ [] h112
  have eZ : ∀ k : Nat, k ≠ 0 → k ≠ 63 → k ≠ 86 → h112[k]? = h3[k]? := fun k p q r => (cn k r).trans ((wu.2.2 k q).trans ((wh110.2.2 k p).trans (wh108.2.2 k p)))
  have eY : ∀ i, i ≠ 8 → i ≠ 10 → cw_at h112 0 i = cw_at h104 0 i := fun i p q => (cp_at cn (by decide)).trans ((wu.2.1 0 i (.inl (by decide))).trans ((wh110.2.1 0 i (.inr q)).trans ((wh108.2.1 0 i (.inr p)).trans (at_h (gB.1 0 (fun g _ => by omega))))))
  refine ex_retv oq_X11_takeSpare_76 rfl (hQ h112 Th112 ⟨fun k a b c d e f => (eZ k a d e).trans ((gB.1 k f).trans (eA k a b c)), fun i a b c d => (eY i c d).trans (e0 i a b), (eY 2 (by decide) (by decide)).trans p2, (eY 3 (by decide) (by decide)).trans p3, ?_, ?_, (ri_eq (at_h ((eZ 55 (by decide) (by decide) (by decide)).trans (gB.1 55 (fun g _ => by omega))))).trans fg.2.2.1, fun l q => (ri_eq (at_h ((eZ 58 (by decide) (by decide) (by decide)).trans (gB.1 58 (fun g _ => by omega))))).trans (fg.2.2.2 l q), (ri_eq (cp_at cn (by decide))).trans ((ri_self wu).trans yu), n9, n10, fun g q => ?_⟩)
  · exact (ri_eq (cp_at cn (by decide))).trans ((ri_ne wu (.inl (by decide))).trans ((ri_ne wh110 (.inr (by decide))).trans ((ri_self wh108).trans (by omega))))
  · exact (ri_eq (cp_at cn (by decide))).trans ((ri_ne wu (.inl (by decide))).trans ((ri_self wh110).trans (by omega)))
  · have e := eZ (103 + 2 * g) (by omega) (by omega) (by omega)
    have sg := gB.2 g q
    have eg : gB0 h104 sp dk dv n g = gB0 h0 sp dk dv n g := by
      have : (fun j => ri_at h104 (sp + 16 + 2 * g) j) = fun j => ri_at h0 (sp + 16 + 2 * g) j := funext (fun j => eR _ j (by omega) (by omega) (by omega))
      unfold gB0
      rw [this, eR _ 14 (by omega) (by omega) (by omega)]
    rw [eg] at sg
    exact ⟨zGV_h e sg.1, (at_h e).trans sg.2⟩
end TS
end GN
