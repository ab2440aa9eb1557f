section
/-! ===== a text of the class, with all that it tells ===== -/
section TE
variable {b : Nat} {h h' : cv_H} {s : zSg} {d : zDt}
theorem zSC_e (hb : b = 2 ∨ b = 26) (e : ∀ k i, 1 ≤ k → k ≤ 54 → ri_at h' k i = ri_at h k i) (a : zSC b h s) : zSC b h' s := by
  obtain ⟨a1, a2, a3, a4, a5, a6, a7⟩ := a
  refine ⟨(e 50 3 (by decide) (by decide)).trans a1, zLT_eq a2 (fun i => e _ i (by omega) (by omega)) (fun i => e _ i (by omega) (by omega)), ⟨(e b 2 (by omega) (by omega)).trans a3.1, (e b 3 (by omega) (by omega)).trans a3.2.1, a3.2.2⟩, ⟨(e b 9 (by omega) (by omega)).trans a4.1, zNm_eq a4.2 (fun i => e _ i (by omega) (by omega))⟩, ⟨(e b 14 (by omega) (by omega)).trans a5.1, zNm_eq a5.2 (fun i => e _ i (by omega) (by omega))⟩, ⟨(e b 19 (by omega) (by omega)).trans a6.1, zNm_eq a6.2 (fun i => e _ i (by omega) (by omega))⟩, fun i hi hi4 => ⟨(e _ 14 (by omega) (by omega)).trans (a7 i hi hi4).1, (e _ 15 (by omega) (by omega)).trans (a7 i hi hi4).2⟩⟩
theorem zWD_e (hb : b = 2 ∨ b = 26) (e : ∀ k i, b ≤ k → k < b + 24 → ri_at h' k i = ri_at h k i) (a : zWD b h s d) : zWD b h' s d := by
  obtain ⟨a1, a2, a3, a4, a5⟩ := a
  refine ⟨a1, ⟨(e b 2 (by omega) (by omega)).trans a2.1, fun o q => zNm_eq (a2.2 o q) (fun i => e _ i (by omega) (by simp at q; omega))⟩, ⟨fun j q => (e _ j (by omega) (by omega)).trans (a3.1 j q), fun o q j r => (e _ j (by omega) (by simp at q; omega)).trans (a3.2 o q j r)⟩, fun i hi => ?_, fun i hi hi4 => ⟨fun j q => (e _ j (by omega) (by omega)).trans ((a5 i hi hi4).1 j q), fun j q => (e _ j (by omega) (by omega)).trans ((a5 i hi hi4).2 j q)⟩⟩
  obtain ⟨⟨t1, t2⟩, t3⟩ := a4 i hi
  exact ⟨⟨fun j q => (e _ j (by omega) (by omega)).trans (t1 j q), fun j q => (e _ j (by omega) (by omega)).trans (t2 j q)⟩, (e _ 14 (by omega) (by omega)).trans t3⟩
theorem zPM_w {k i : Nat} {v : cv_V} (hb : b = 2 ∨ b = 26) (hk : k = 0 ∨ 50 ≤ k) (w : cw_Wr h h' k i v) (a : zPM b h) : zPM b h' := ⟨fun j q => (w.2.1 b j (.inl (by omega))).trans (a.1 j q), fun j q => (w.2.1 (b + 6) j (.inl (by omega))).trans (a.2 j q)⟩
theorem zPM_h (e : ∀ k : Nat, b ≤ k → k < b + 24 → h'[k]? = h[k]?) (a : zPM b h) : zPM b h' := ⟨fun j q => (at_h (e b (by omega) (by omega))).trans (a.1 j q), fun j q => (at_h (e (b + 6) (by omega) (by omega))).trans (a.2 j q)⟩
end TE
/-- laws forgotten -/
def zFG (h h' : cv_H) : Prop := (∀ k : Nat, k ≠ 55 → k ≠ 58 → h'[k]? = h[k]?) ∧ (∀ i, i ≠ 3 → cw_at h' 55 i = cw_at h 55 i) ∧ ri_at h' 55 3 = -1 ∧ ∀ l, l < 3 → ri_at h' 58 l = 0
/-- what a text taken makes of the class, besides its plan -/
def gB0 (h : cv_H) (b : Nat) (dk dv : List Int) (n g : Nat) : Nat → Int := gBegin (fun j => ri_at h (b + 16 + 2 * g) j) (zMs dk dv (ri_at h (b + 16 + 2 * g) 14).toNat 0 n) (zMs dk dv (ri_at h (b + 16 + 2 * g) 14).toNat 1 n) (zMs dk dv (ri_at h (b + 16 + 2 * g) 14).toNat 2 n)
def zTS (h h' : cv_H) (pl sp : Nat) (dk dv : List Int) (n : Nat) : Prop := (∀ k : Nat, k ≠ 0 → k ≠ 55 → k ≠ 58 → k ≠ 63 → k ≠ 86 → (∀ g, g < 4 → k ≠ 103 + 2 * g) → h'[k]? = h[k]?) ∧ (∀ i, i ≠ 2 → i ≠ 3 → i ≠ 8 → i ≠ 10 → cw_at h' 0 i = cw_at h 0 i) ∧ cw_at h' 0 2 = some (cv_r sp) ∧ cw_at h' 0 3 = some (cv_r pl) ∧ ri_at h' 0 8 = 0 ∧ ri_at h' 0 10 = -1 ∧ ri_at h' 55 3 = -1 ∧ (∀ l, l < 3 → ri_at h' 58 l = 0) ∧ ri_at h' 63 2 = 0 ∧ ri_at h' 86 9 = 0 ∧ ri_at h' 86 10 = -1 ∧ ∀ g, g < 4 → zGV h' (103 + 2 * g) (gB0 h sp dk dv n g) ∧ cw_at h' (103 + 2 * g) 0 = some (cv_r (sp + 16 + 2 * g))
section GN
variable {G : Int} {X : cv_X} {Q : cv_O → Prop} {h0 h : cv_H}
theorem oq_X2_forget_7 : cw_ho 29 7 (.iload_n 1) 1 0 0 0 := rfl
theorem oq_X2_forget_8 : cw_ho 29 8 (.iconst 3) 1 0 0 0 := rfl
theorem oq_X2_forget_9 : cw_ho 29 9 (.if_icmp .ge 16) 3 0 0 0 := rfl
theorem oq_X2_forget_12 : cw_ho 29 12 (.aload_n 0) 1 0 0 0 := rfl
theorem oq_X2_forget_13 : cw_ho 29 13 (.getfield 18) 3 2 2 4 := rfl
theorem oq_X2_forget_16 : cw_ho 29 16 (.iload_n 1) 1 0 0 0 := rfl
theorem oq_X2_forget_17 : cw_ho 29 17 (.iconst 0) 1 0 0 0 := rfl
theorem oq_X2_forget_18 : cw_ho 29 18 (.iastore) 1 0 0 0 := rfl
theorem oq_X2_forget_19 : cw_ho 29 19 (.iinc 1 1) 3 0 0 0 := rfl
theorem oq_X2_forget_22 : cw_ho 29 22 (.goto (-15)) 3 0 0 0 := rfl
theorem oq_X2_forget_25 : cw_ho 29 25 (.return_) 1 0 0 0 := rfl
theorem cf_lp (hQ : ∀ h', cw_T G h' → cp_F 58 h0 h' → (∀ l, l < 3 → ri_at h' 58 l = 0) → Q (none, h')) : ∀ (f i : Nat) (I : Int32) (h : cv_H) (L : cv_L), 3 - i = f → i ≤ 3 → I.toInt = i → cw_T G h → cp_F 58 h0 h → (∀ l, l < i → ri_at h 58 l = 0) → cv_get L 0 = some (cv_r 55) → cv_get L 1 = some (cv_i I) → cw_X X 29 Q 7 L [] h := by
  intro f
  induction f with
  | zero =>
    intro i I h L hf hi hI' hT hF hI g0 g1
    refine ex_il oq_X2_forget_7 g1 ?_
    refine ex_ic oq_X2_forget_8 (m := 3) (by decide) (fun x101 hx101 => ?_)
    refine ex_if oq_X2_forget_9 (t := 25) rfl rfl (fun (c102 : x101.toInt ≤ I.toInt) => ?_) (fun (c102 : ¬ (x101.toInt ≤ I.toInt)) => ?_)
    · exact ex_retv oq_X2_forget_25 rfl (hQ h hT hF (fun l q => hI l (by omega)))
    · exfalso; omega
  | succ f ih =>
    intro i I h L hf hi hI' hT hF hI g0 g1
    refine ex_il oq_X2_forget_7 g1 ?_
    refine ex_ic oq_X2_forget_8 (m := 3) (by decide) (fun x101 hx101 => ?_)
    refine ex_if oq_X2_forget_9 (t := 25) rfl rfl (fun (c102 : x101.toInt ≤ I.toInt) => ?_) (fun (c102 : ¬ (x101.toInt ≤ I.toInt)) => ?_)
    · exfalso; omega
    · refine ex_al oq_X2_forget_12 g0 ?_
      refine ex_gf oq_X2_forget_13 hT (k := 55) (d := 2) rfl rfl (ri_ref (k := 55) (k' := 58) (d := 2) (f := 2) hT rfl rfl rfl (by decide) (ri_uniq (by decide +kernel))) ?_
      refine ex_il oq_X2_forget_16 g1 ?_
      refine ex_ic oq_X2_forget_17 (m := 0) (by decide) (fun x103 hx103 => ?_)
      refine ex_iw1 oq_X2_forget_18 hT (k := 58) (d := 19) (j := i) rfl rfl (by omega) (by omega) ⟨(cw_i32 _).1, (cw_i32 _).2⟩ (fun h104 Th104 wh104 => ?_)
      refine ex_incA oq_X2_forget_19 (v := I) (m := 1) g1 (by decide) (by omega) (fun L106 x105 hx105 gL106_1 kL106 => ?_)
      have gL106_0 : cv_get L106 0 = some (cv_r 55) := kL106 0 _ (by decide) (fun _ => rfl) g0
      refine ex_go oq_X2_forget_22 (t := 7) rfl rfl ?_
      refine ih (i + 1) x105 h104 L106 (by omega) (by omega) (by omega) Th104 (cp_w wh104 hF) (fun l q => ?_) gL106_0 gL106_1
      by_cases cl : l = i
      · subst cl; exact (ri_self wh104).trans (by omega)
      · exact (ri_ne wh104 (.inr cl)).trans (hI l (by omega))
theorem oq_X2_forget_0 : cw_ho 29 0 (.aload_n 0) 1 0 0 0 := rfl
theorem oq_X2_forget_1 : cw_ho 29 1 (.iconst (-1)) 1 0 0 0 := rfl
theorem oq_X2_forget_2 : cw_ho 29 2 (.putfield 22) 3 2 3 0 := rfl
theorem oq_X2_forget_5 : cw_ho 29 5 (.iconst 0) 1 0 0 0 := rfl
theorem oq_X2_forget_6 : cw_ho 29 6 (.istore_n 1) 1 0 0 0 := rfl
theorem cf_forget (hT : cw_T G h) (hQ : ∀ h', cw_T G h' → zFG h h' → Q (none, h')) : cw_X X 29 Q 0 (cv_ent 0 [cv_r 55]) [] h := by
  refine ex_al oq_X2_forget_0 rfl ?_
  refine ex_ic oq_X2_forget_1 (m := (-1)) (by decide) (fun x201 hx201 => ?_)
  refine ex_pfi oq_X2_forget_2 hT (k := 55) (d := 2) rfl rfl rfl (cw_i32 _).1 (cw_i32 _).2 (fun h202 Th202 wh202 => ?_)
  have eh202_55_3 : ri_at h202 55 3 = x201.toInt := ri_self wh202
  refine ex_ic oq_X2_forget_5 (m := 0) (by decide) (fun x203 hx203 => ?_)
  refine ex_isA oq_X2_forget_6 (fun L204 gL204_1 kL204 => ?_)
  have gL204_0 : cv_get L204 0 = some (cv_r 55) := kL204 0 _ (by decide) (fun _ => rfl) rfl
  exact cf_lp (fun h' b1 b2 b3 => hQ h' b1 ⟨fun k p q => (b2 k q).trans (wh202.2.2 k p), fun i p => (cp_at b2 (by decide)).trans (wh202.2.1 55 i (.inr p)), (ri_eq (cp_at b2 (by decide))).trans ((ri_self wh202).trans (by omega)), b3⟩) 3 0 x203 h202 L204 (by decide) (by decide) (by omega) Th202 cp_0 (fun l q => absurd q (by omega)) gL204_0 gL204_1
theorem cn_clr (hT : cw_T G h) (hQ : ∀ h', cw_T G h' → cp_F 86 h h' → (∀ i, i ≠ 9 → i ≠ 10 → cw_at h' 86 i = cw_at h 86 i) → ri_at h' 86 9 = 0 → ri_at h' 86 10 = -1 → Q (none, h')) : cw_X X 41 Q 0 (cv_ent 0 [cv_r 86]) [] h := by
  refine ex_al oq_X3_clear_0 rfl ?_
  refine ex_ic oq_X3_clear_1 (m := 0) (by decide) (fun x101 hx101 => ?_)
  refine ex_pfi oq_X3_clear_2 hT (k := 86) (d := 3) rfl rfl rfl (by omega) (by omega) (fun h102 Th102 wh102 => ?_)
  refine ex_al oq_X3_clear_5 rfl ?_
  refine ex_ic oq_X3_clear_6 (m := (-1)) (by decide) (fun x103 hx103 => ?_)
  refine ex_pfi oq_X3_clear_7 Th102 (k := 86) (d := 3) rfl rfl rfl (by omega) (by omega) (fun h104 Th104 wh104 => ?_)
  exact ex_retv oq_X3_clear_10 rfl (hQ h104 Th104 (fun k p => (wh104.2.2 k p).trans (wh102.2.2 k p)) (fun i p q => (wh104.2.1 86 i (.inr q)).trans (wh102.2.1 86 i (.inr p))) ((ri_ne wh104 (.inr (by decide))).trans ((ri_self wh102).trans (by omega))) ((ri_self wh104).trans (by omega)))
section TS
variable {sp n : Nat} {dk dv : List Int}
/-- gates begun -/
def zGB (sp n : Nat) (dk dv : List Int) (h0 h : cv_H) (i : Nat) : Prop := (∀ k : Nat, (∀ g, g < 4 → k ≠ 103 + 2 * g) → h[k]? = h0[k]?) ∧ ∀ g, g < i → zGV h (103 + 2 * g) (gB0 h0 sp dk dv n g) ∧ cw_at h (103 + 2 * g) 0 = some (cv_r (sp + 16 + 2 * g))
theorem zGB_s {h0 h h' : cv_H} {i : Nat} (I : zGB sp n dk dv h0 h i) (hi : i < 4) (c : cp_F (103 + 2 * i) h h') (V : zGV h' (103 + 2 * i) (gB0 h0 sp dk dv n i)) (p : cw_at h' (103 + 2 * i) 0 = some (cv_r (sp + 16 + 2 * i))) : zGB sp n dk dv h0 h' (i + 1) := by
  refine ⟨fun k q => (c k (q i hi)).trans (I.1 k q), fun g hg => ?_⟩
  by_cases cg : g = i
  · subst cg; exact ⟨V, p⟩
  · have e : h'[103 + 2 * g]? = h[103 + 2 * g]? := c _ (by omega)
    have s := I.2 g (by omega)
    exact ⟨zGV_h e s.1, (at_h e).trans s.2⟩
theorem ts_lp (hs4 : cw_sh[sp]? = some 4) (hpm : zPM sp h0) (hn : ri_at h0 sp 19 = n) (hn6 : n ≤ 6) (d1 : ∀ c, c < n → ri_at h0 (sp + 14) c = dk.getD c 0) (d2 : ∀ c, c < n → ri_at h0 (sp + 15) c = dv.getD c 0) (hv : ∀ c, 0 ≤ dv.getD c 0 ∧ dv.getD c 0 ≤ 999) (h14 : ∀ g, g < 4 → 0 ≤ ri_at h0 (sp + 16 + 2 * g) 14 ∧ ri_at h0 (sp + 16 + 2 * g) 14 < 64) (kC : zKC h0) (hp2 : cw_at h0 0 2 = some (cv_r sp)) (kk : ∀ h L, cw_T G h → zGB sp n dk dv h0 h 4 → cv_get L 0 = some (cv_r 0) → cw_X X 110 Q 52 L [] h) : ∀ (f i : Nat) (I : Int32) (h : cv_H) (L : cv_L), 4 - i = f → i ≤ 4 → I.toInt = i → cw_T G h → zGB sp n dk dv h0 h i → cv_get L 0 = some (cv_r 0) → cv_get L 2 = some (cv_i I) → cw_X X 110 Q 27 L [] h := by
  have hs226 := sh_4 hs4
  intro f
  induction f with
  | zero =>
    intro i I h L hf hi hI' hT hI g0 g2
    refine ex_il oq_X11_takeSpare_27 g2 ?_
    refine ex_ic oq_X11_takeSpare_28 (m := 4) (by decide) (fun x101 hx101 => ?_)
    refine ex_if oq_X11_takeSpare_29 (t := 52) rfl rfl (fun (c102 : x101.toInt ≤ I.toInt) => ?_) (fun (c102 : ¬ (x101.toInt ≤ I.toInt)) => ?_)
    · exact kk h L hT (by rw [show i = 4 from by omega] at hI; exact hI) g0
    · exfalso; omega
  | succ f ih =>
    intro i I h L hf hi hI' hT hI g0 g2
    refine ex_il oq_X11_takeSpare_27 g2 ?_
    refine ex_ic oq_X11_takeSpare_28 (m := 4) (by decide) (fun x101 hx101 => ?_)
    refine ex_if oq_X11_takeSpare_29 (t := 52) rfl rfl (fun (c102 : x101.toInt ≤ I.toInt) => ?_) (fun (c102 : ¬ (x101.toInt ≤ I.toInt)) => ?_)
    · exfalso; omega
    · refine ex_al oq_X11_takeSpare_32 g0 ?_
      refine ex_gf oq_X11_takeSpare_33 hT (k := 0) (d := 11) rfl rfl (ri_ref (k := 0) (k' := 61) (d := 11) (f := 7) hT rfl rfl rfl (by decide) (ri_uniq (by decide +kernel))) ?_
      refine ex_il oq_X11_takeSpare_36 g2 ?_
      have hK1 := (sh_gt (g := i) (by omega)).1
      refine ex_aa oq_X11_takeSpare_37 hT (k := 61) (d := 14) (j := i) rfl rfl (by omega) (by omega) (fun k104 ak104 sk104 => ?_)
      have ek104 : k104 = 103 + 2 * i := rk_inj (ak104.symm.trans ((at_h (hI.1 61 (fun g _ => by omega))).trans (kC i (by omega)).1))
      subst ek104
      refine ex_al oq_X11_takeSpare_38 g0 ?_
      refine ex_gf oq_X11_takeSpare_39 hT (k := 0) (d := 11) rfl rfl (((at_h (hI.1 0 (fun g _ => by omega))).trans hp2)) ?_
      refine ex_il oq_X11_takeSpare_42 g2 ?_
      have eP : ∀ k i, k < 103 → cw_at h k i = cw_at h0 k i := fun k i p => at_h (hI.1 k (fun g _ => by omega))
      have hs24 := hs226
      refine ex_cv oq_X11_takeSpare_43 (by decide) hT (k := 103 + 2 * i) (d := 1) (as := [cv_r sp, cv_i I]) (stk := []) hK1 rfl rfl rfl rfl rfl ⟨rfl, rfl⟩ (R := fun o => ∃ hb : cv_H, o = (none, hb) ∧ cw_T G hb ∧ cp_F (103 + 2 * i) h hb ∧ zGV hb (103 + 2 * i) (gB0 h0 sp dk dv n i) ∧ cw_at hb (103 + 2 * i) 0 = some (cv_r (sp + 16 + 2 * i))) (cg_begin hT hK1 (zKi_7 hs226 (by omega)) (zKi_9 hs226).1 ((eP _ _ (by omega)).trans (hpm.1 7 (by decide))) hs4 (zKi hs226).2.2.2.2.2.2.1 (zKi hs226).2.2.2.2.2.2.2 ((eP _ _ (by omega)).trans (hpm.1 17 (by decide))) ((eP _ _ (by omega)).trans (hpm.1 18 (by decide))) ((ri_eq (eP _ _ (by omega))).trans hn) hn6 (fun c q => (ri_eq (eP _ _ (by omega))).trans (d1 c q)) (fun c q => (ri_eq (eP _ _ (by omega))).trans (d2 c q)) hv (gi := i) (by omega) (by omega) ((eP _ _ (by omega)).trans (hpm.2 i (by omega))) (T := fun j => ri_at h0 (sp + 16 + 2 * i) j) (fun j _ => ri_eq (eP _ _ (by omega))) (S := (ri_at h0 (sp + 16 + 2 * i) 14).toNat) (by have := h14 i (by omega); omega) (by have := h14 i (by omega); omega) (fun hb b1 b2 b3 b4 => ⟨hb, rfl, b1, b2, b3, b4⟩)) (fun o ho => ?_)
      obtain ⟨h105, rfl, Th105, ch105, Vh105, ph105⟩ := ho
      show cw_X _ _ _ _ _ [] h105
      refine ex_incA oq_X11_takeSpare_46 (v := I) (m := 1) g2 (by decide) (by omega) (fun L107 x106 hx106 gL107_2 kL107 => ?_)
      have gL107_0 : cv_get L107 0 = some (cv_r 0) := kL107 0 _ (by decide) (fun q => absurd q (by decide)) g0
      refine ex_go oq_X11_takeSpare_49 (t := 27) rfl rfl ?_
      exact ih (i + 1) x106 h105 L107 (by omega) (by omega) (by omega) Th105 (zGB_s hI (by omega) ch105 Vh105 ph105) gL107_0 gL107_2
set_option maxHeartbeats 4000000 in
theorem ct_tsD (hT : cw_T G h0) (hs4 : cw_sh[sp]? = some 4) (hpm : zPM sp h0) (hn : ri_at h0 sp 19 = n) (hn6 : n ≤ 6) (d1 : ∀ c, c < n → ri_at h0 (sp + 14) c = dk.getD c 0) (d2 : ∀ c, c < n → ri_at h0 (sp + 15) c = dv.getD c 0) (hv : ∀ c, 0 ≤ dv.getD c 0 ∧ dv.getD c 0 ≤ 999) (h14 : ∀ g, g < 4 → 0 ≤ ri_at h0 (sp + 16 + 2 * g) 14 ∧ ri_at h0 (sp + 16 + 2 * g) 14 < 64) (kC : zKC h0) {pl : Nat} (hp4 : cw_sh[pl]? = some 4) (hp2 : cw_at h0 0 2 = some (cv_r pl)) (hp3 : cw_at h0 0 3 = some (cv_r sp)) (hQ : ∀ h', cw_T G h' → zTS h0 h' pl sp dk dv n → Q (none, h')) : cw_X X 110 Q 0 (cv_ent 0 [cv_r 0]) [] h0 := by
  refine ex_al oq_X11_takeSpare_0 rfl ?_
  refine ex_gf oq_X11_takeSpare_1 hT (k := 0) (d := 11) rfl rfl (hp2) ?_
  refine ex_asA oq_X11_takeSpare_4 (fun L101 gL101_1 kL101 => ?_)
  have gL101_0 : cv_get L101 0 = some (cv_r 0) := kL101 0 _ (by decide) (fun _ => rfl) rfl
  refine ex_al oq_X11_takeSpare_5 gL101_0 ?_
  refine ex_al oq_X11_takeSpare_6 gL101_0 ?_
  refine ex_gf oq_X11_takeSpare_7 hT (k := 0) (d := 11) rfl rfl (hp3) ?_
  refine ex_pfr oq_X11_takeSpare_10 hT (k := 0) (d := 11) (v := sp) rfl rfl rfl (by decide) hs4 rfl (fun h102 Th102 wh102 => ?_)
  refine ex_al oq_X11_takeSpare_13 gL101_0 ?_
  refine ex_al oq_X11_takeSpare_14 gL101_1 ?_
  refine ex_pfr oq_X11_takeSpare_15 Th102 (k := 0) (d := 11) (v := pl) rfl rfl rfl (by decide) hp4 rfl (fun h103 Th103 wh103 => ?_)
  refine ex_al oq_X11_takeSpare_18 gL101_0 ?_
  refine ex_gf oq_X11_takeSpare_19 Th103 (k := 0) (d := 11) rfl rfl (ri_ref (k := 0) (k' := 55) (d := 11) (f := 5) Th103 rfl rfl rfl (by decide) (ri_uniq (by decide +kernel))) ?_
  refine ex_cv oq_X11_takeSpare_22 (by decide) Th103 (k := 55) (d := 2) (as := []) (stk := []) rfl rfl rfl rfl rfl rfl ⟨rfl, rfl⟩ (R := fun o => ∃ hb : cv_H, o = (none, hb) ∧ cw_T G hb ∧ zFG h103 hb) (cf_forget Th103 (fun hb b1 b2 => ⟨hb, rfl, b1, b2⟩)) (fun o ho => ?_)
  obtain ⟨h104, rfl, Th104, fg⟩ := ho
  show cw_X _ _ _ _ _ [] h104
  have eA : ∀ k : Nat, k ≠ 0 → k ≠ 55 → k ≠ 58 → h104[k]? = h0[k]? := fun k p q r => (fg.1 k q r).trans ((wh103.2.2 k p).trans (wh102.2.2 k p))
  have e0 : ∀ i, i ≠ 2 → i ≠ 3 → cw_at h104 0 i = cw_at h0 0 i := fun i p q => (at_h (fg.1 0 (by decide) (by decide))).trans ((wh103.2.1 0 i (.inr q)).trans (wh102.2.1 0 i (.inr p)))
  have p2 : cw_at h104 0 2 = some (cv_r sp) := (at_h (fg.1 0 (by decide) (by decide))).trans ((wh103.2.1 0 2 (.inr (by decide))).trans wh102.1)
  have p3 : cw_at h104 0 3 = some (cv_r pl) := (at_h (fg.1 0 (by decide) (by decide))).trans wh103.1
  refine ex_ic oq_X11_takeSpare_25 (m := 0) (by decide) (fun x105 hx105 => ?_)
  refine ex_isA oq_X11_takeSpare_26 (fun L106 gL106_2 kL106 => ?_)
  have gL106_1 : cv_get L106 1 = some (cv_r pl) := kL106 1 _ (by decide) (fun _ => rfl) gL101_1
  have gL106_0 : cv_get L106 0 = some (cv_r 0) := kL106 0 _ (by decide) (fun q => absurd q (by decide)) gL101_0
  have hs226 := sh_4 hs4
  have eR : ∀ k i, k ≠ 0 → k ≠ 55 → k ≠ 58 → ri_at h104 k i = ri_at h0 k i := fun k i p q r => ri_eq (at_h (eA k p q r))
  refine ts_lp hs4 (zPM_h (fun k q r => eA k (by omega) (by omega) (by omega)) hpm) ((eR _ _ (by omega) (by omega) (by omega)).trans hn) hn6 (fun c q => (eR _ _ (by omega) (by omega) (by omega)).trans (d1 c q)) (fun c q => (eR _ _ (by omega) (by omega) (by omega)).trans (d2 c q)) hv (fun g q => by rw [eR _ _ (by omega) (by omega) (by omega)]; exact h14 g q) (fun g q => ⟨(at_h (eA 61 (by decide) (by decide) (by decide))).trans (kC g q).1, (at_h (eA 62 (by decide) (by decide) (by decide))).trans (kC g q).2⟩) p2 (fun h3 L3 T3 gB g30 => ?_) 4 0 x105 h104 L106 (by decide) (by decide) (by omega) Th104 ⟨fun _ _ => rfl, fun g q => absurd q (by omega)⟩ gL106_0 gL106_2
  refine ex_al oq_X11_takeSpare_52 g30 ?_
  refine ex_ic oq_X11_takeSpare_53 (m := 0) (by decide) (fun x107 hx107 => ?_)
  refine ex_pfi oq_X11_takeSpare_54 T3 (k := 0) (d := 11) rfl rfl rfl (by omega) (by omega) (fun h108 Th108 wh108 => ?_)
  refine ex_al oq_X11_takeSpare_57 g30 ?_
  refine ex_ic oq_X11_takeSpare_58 (m := (-1)) (by decide) (fun x109 hx109 => ?_)
  refine ex_pfi oq_X11_takeSpare_59 Th108 (k := 0) (d := 11) rfl rfl rfl (by omega) (by omega) (fun h110 Th110 wh110 => ?_)
  refine ex_al oq_X11_takeSpare_62 g30 ?_
  refine ex_gf oq_X11_takeSpare_63 Th110 (k := 0) (d := 11) rfl rfl (ri_ref (k := 0) (k' := 63) (d := 11) (f := 11) Th110 rfl rfl rfl (by decide) (ri_uniq (by decide +kernel))) ?_
  refine ex_cv oq_X11_takeSpare_66 (by decide) Th110 (k := 63) (d := 10) (as := []) (stk := []) rfl rfl rfl rfl rfl rfl ⟨rfl, rfl⟩ (R := fun o => ∃ hb : cv_H, o = (none, hb) ∧ cw_T G hb ∧ ∃ z : Int32, z.toInt = 0 ∧ cw_Wr h110 hb 63 2 (cv_i z)) (cu_clr Th110 (fun hb z b1 b2 b3 => ⟨hb, rfl, b1, z, b2, b3⟩)) (fun o ho => ?_)
  obtain ⟨h111, rfl, Th111, zu, yu, wu⟩ := ho
  show cw_X _ _ _ _ _ [] h111
  refine ex_al oq_X11_takeSpare_69 g30 ?_
  refine ex_gf oq_X11_takeSpare_70 Th111 (k := 0) (d := 11) rfl rfl (ri_ref (k := 0) (k' := 86) (d := 11) (f := 12) Th111 rfl rfl rfl (by decide) (ri_uniq (by decide +kernel))) ?_
  refine ex_cv oq_X11_takeSpare_73 (by decide) Th111 (k := 86) (d := 3) (as := []) (stk := []) rfl rfl rfl rfl rfl rfl ⟨rfl, rfl⟩ (R := fun o => ∃ hb : cv_H, o = (none, hb) ∧ cw_T G hb ∧ cp_F 86 h111 hb ∧ (∀ i, i ≠ 9 → i ≠ 10 → cw_at hb 86 i = cw_at h111 86 i) ∧ ri_at hb 86 9 = 0 ∧ ri_at hb 86 10 = -1) (cn_clr Th111 (fun hb b1 b2 b3 b4 b5 => ⟨hb, rfl, b1, b2, b3, b4, b5⟩)) (fun o ho => ?_)
  obtain ⟨h112, rfl, Th112, cn, c86, n9, n10⟩ := ho
  show cw_X _ _ _ _ _ [] h112
  have eZ : ∀ k : Nat, k ≠ 0 → k ≠ 63 → k ≠ 86 → h112[k]? = h3[k]? := fun k p q r => (cn k r).trans ((wu.2.2 k q).trans ((wh110.2.2 k p).trans (wh108.2.2 k p)))
  have eY : ∀ i, i ≠ 8 → i ≠ 10 → cw_at h112 0 i = cw_at h104 0 i := fun i p q => (cp_at cn (by decide)).trans ((wu.2.1 0 i (.inl (by decide))).trans ((wh110.2.1 0 i (.inr q)).trans ((wh108.2.1 0 i (.inr p)).trans (at_h (gB.1 0 (fun g _ => by omega))))))
  refine ex_retv oq_X11_takeSpare_76 rfl (hQ h112 Th112 ⟨fun k a b c d e f => (eZ k a d e).trans ((gB.1 k f).trans (eA k a b c)), fun i a b c d => (eY i c d).trans (e0 i a b), (eY 2 (by decide) (by decide)).trans p2, (eY 3 (by decide) (by decide)).trans p3, ?_, ?_, (ri_eq (at_h ((eZ 55 (by decide) (by decide) (by decide)).trans (gB.1 55 (fun g _ => by omega))))).trans fg.2.2.1, fun l q => (ri_eq (at_h ((eZ 58 (by decide) (by decide) (by decide)).trans (gB.1 58 (fun g _ => by omega))))).trans (fg.2.2.2 l q), (ri_eq (cp_at cn (by decide))).trans ((ri_self wu).trans yu), n9, n10, fun g q => ?_⟩)
  · exact (ri_eq (cp_at cn (by decide))).trans ((ri_ne wu (.inl (by decide))).trans ((ri_ne wh110 (.inr (by decide))).trans ((ri_self wh108).trans (by omega))))
  · exact (ri_eq (cp_at cn (by decide))).trans ((ri_ne wu (.inl (by decide))).trans ((ri_self wh110).trans (by omega)))
  · have e := eZ (103 + 2 * g) (by omega) (by omega) (by omega)
    have sg := gB.2 g q
    have eg : gB0 h104 sp dk dv n g = gB0 h0 sp dk dv n g := by
      have : (fun j => ri_at h104 (sp + 16 + 2 * g) j) = fun j => ri_at h0 (sp + 16 + 2 * g) j := funext (fun j => eR _ j (by omega) (by omega) (by omega))
      unfold gB0
      rw [this, eR _ 14 (by omega) (by omega) (by omega)]
    rw [eg] at sg
    exact ⟨zGV_h e sg.1, (at_h e).trans sg.2⟩
end TS
end GN
end
section
/-! ===== both sides hold what the text told ===== -/
def zTT (d : zDt) (e : Nat → Int) (g : Nat) : Nat → Int := fun j => if j = 15 then e g else d.2 (16 + g) j
theorem zTT_n {d : zDt} {e : Nat → Int} {g j : Nat} (h : j ≠ 15) : zTT d e g j = d.2 (16 + g) j := if_neg h
def zTf (d : zDt) : Nat → Int := fun j => if j < 12 then d.2 1 j else 0
/-- a law's signs -/
def zTl (d : zDt) (l : Nat) : List Int := ((d.1 2).drop (d.2 3 l).toNat).take ((d.2 4 l).toNat - (d.2 3 l).toNat)
def zTL (s : zSg) (d : zDt) (l : Nat) : Option (List Int) := if s.2.1 (l : Int) = 1 then some (zTl d l) else none
section TW
variable {s : zSg} {d : zDt} {e : Nat → Int} {h : cv_H} {b : Nat}
theorem zTR_g (a : zDg d) {g : Nat} (hg : g < 4) : gTR (zTT d e g) := by
  obtain ⟨hh, r, ⟨t0, t1, t2, t3, t5, t6, t7, t8, t9, t10, t11, t12, t13⟩, -, u⟩ := a g hg
  refine ⟨t0, ?_, t2, ?_, t5, t6, t7, t8, t9, t10, t11, t12, t13, u⟩
  · show 24 ≤ d.2 (16 + g) 1 ∧ d.2 (16 + g) 1 ≤ 72
    omega
  · show 0 ≤ d.2 (16 + g) 3 ∧ d.2 (16 + g) 3 < d.2 (16 + g) 4 ∧ d.2 (16 + g) 4 ≤ d.2 (16 + g) 1
    omega
theorem zPD_T (a : zDR s d) : zPD s.2.2.2.1.length s.2.2.2.2.2.length (zTT d e) (zTf d) (d.1 14) (d.1 15) := by
  obtain ⟨⟨⟨w0, w1, w2, w3⟩, l1, l2, l3⟩, a2, a3, a4, a5, a6⟩ := a
  refine ⟨l1, l3, fun g hg => zTR_g a4 (by omega), fun j => ?_, fun c => ?_, fun c hc => (a3 c hc).2.1⟩
  · unfold zTf
    by_cases c : j < 12
    · rw [if_pos c]; have := a5 j c; omega
    · rw [if_neg c]; omega
  · by_cases q : c < s.2.2.2.2.2.length
    · exact (a3 c q).2.2
    · rw [List.getD_eq_getElem?_getD, List.getElem?_eq_none (by omega)]
      exact ⟨by decide, by decide⟩
theorem zTl_e {l a b : Nat} (e1 : d.2 3 l = a) (e2 : d.2 4 l = b) : zTl d l = ((d.1 2).drop a).take (b - a) := by
  unfold zTl
  rw [e1, e2]
  rfl
theorem zTl_get {l a b m : Nat} (e1 : d.2 3 l = a) (e2 : d.2 4 l = b) (hm : m < b - a) : (zTl d l).getD m 0 = (d.1 2).getD (a + m) 0 := by
  rw [zTl_e e1 e2, List.getD_eq_getElem?_getD, List.getD_eq_getElem?_getD, List.getElem?_take_of_lt hm, List.getElem?_drop]
/-- the reference's laws -/
theorem zRL_T (a : zRW 0 h s d) (r : zDR s d) (hk : s.2.2.1 ≤ 64) {l : Nat} (hl : l < 4) (ht : s.2.1 (l : Int) = 1 ∨ s.2.1 (l : Int) = 0) (e7 : ri_at h 117 l = s.2.1 (l : Int)) : zRL h l (zTL s d l) ∧ (s.2.1 (l : Int) = 1 → zWf (zTl d l)) := by
  unfold zTL
  obtain ⟨-, -, -, -, -, a6⟩ := a
  obtain ⟨-, -, -, -, -, r6⟩ := r
  rcases ht with q | q
  · rw [if_pos q]
    obtain ⟨x, y, c1, c2, c3, c4, c5, c6, c7, c8⟩ := a6.2 l hl q
    obtain ⟨x', y', nm, d1, d2, d3, d4, d5, d6⟩ := r6 l hl q
    have ex : x' = x := by omega
    have ey : y' = y := by omega
    subst ex ey
    rw [← zTl_e c1 c2] at c7 c8 d6
    have hln : (zTl d l).length = y' - x' := by rw [zTl_e c1 c2, List.length_take, List.length_drop]; omega
    have w : zWf (zTl d l) := zWf_K c7 c8 d6.1
    have k1 := a6.1
    rw [show 4 * 0 + l = l from by omega] at c5 c6
    exact ⟨⟨e7.trans q, w, x', c5, c6.trans (by rw [hln]; omega), by rw [hln]; omega, c7⟩, fun _ => w⟩
  · rw [if_neg (by omega)]
    exact ⟨e7.trans q, fun q2 => by omega⟩
theorem zRD_T (a : zRW 0 h s d) (r : zDR s d) (hk : s.2.2.1 ≤ 64) (ht : ∀ l : Nat, l < 4 → s.2.1 (l : Int) = 1 ∨ s.2.1 (l : Int) = 0) (e7 : ∀ l : Nat, l < 4 → ri_at h 117 l = s.2.1 (l : Int)) (e12 : ri_at h 111 12 = s.2.2.2.1.length) (e14 : ri_at h 111 14 = s.2.2.2.2.2.length) : zRD h s.2.2.2.1.length s.2.2.2.2.2.length (zTT d e) (zTf d) (zTL s d) (d.1 14) (d.1 15) := by
  refine ⟨e12, e14, fun g hg j hj => ?_, fun j hj => ?_, fun l hl => (zRL_T a r hk hl (ht l hl) (e7 l hl)).1, fun c hc => ?_, fun c hc => ?_⟩
  · rw [zTT_n (by omega)]
    have q := (a.2.2.2.2.1 g hg).1 j hj
    rwa [show 64 * 0 + 16 * g + j = 16 * g + j from by omega] at q
  · unfold zTf
    rw [if_pos hj]
    have q := a.2.2.2.1 j hj
    rwa [show 12 * 0 + j = j from by omega] at q
  · have q := (a.2.2.1 c hc).2.1
    rwa [show 18 * 0 + 3 * c + 1 = 3 * c + 1 from by omega] at q
  · have q := (a.2.2.1 c hc).2.2
    rwa [show 18 * 0 + 3 * c + 2 = 3 * c + 2 from by omega] at q
/-- the works that the reference holds -/
def zRS (h : cv_H) (nw : Nat) (wc wk wn : Nat → Int) : Prop := ri_at h 111 13 = nw ∧ ∀ w, w < nw → ri_at h 122 (3 * w) = wc w ∧ ri_at h 122 (3 * w + 1) = wk w ∧ ri_at h 122 (3 * w + 2) = wn w
theorem zRS_T (a : zRW 0 h s d) (e13 : ri_at h 111 13 = s.2.2.2.2.1.length) : zRS h s.2.2.2.2.1.length (fun w => (d.1 9).getD w 0) (fun w => (d.1 10).getD w 0) (fun w => (d.1 11).getD w 0) := by
  refine ⟨e13, fun w hw => ?_⟩
  have q := a.2.1 w hw
  rw [show 18 * 0 + 3 * w = 3 * w from by omega] at q
  exact q
/-- the class's laws and gates -/
theorem zKH_T (a : zWD b h s d) (c : zSC b h s) (r : zDR s d) (hw : ∀ l : Nat, l < 4 → s.2.1 (l : Int) = 1 → zWf (zTl d l)) (he : ∀ g, g < 4 → ri_at h (b + 16 + 2 * g) 15 = e g) : zKH h b s.2.2.2.1.length s.2.2.2.2.2.length (zTT d e) (zTf d) (zTL s d) (d.1 14) (d.1 15) := by
  obtain ⟨c3, clt, ckn, cg, cw, cc, cto⟩ := c
  obtain ⟨wl, ⟨wr1, wr⟩, ⟨wf1, wf⟩, wt, wu⟩ := a
  obtain ⟨⟨⟨w0, w1, w2, w3⟩, l1, l2, l3⟩, r2, r3, r4, r5, r6⟩ := r
  refine ⟨cg.1, cc.1, fun g hg j hj => ?_, fun j hj => ?_, fun l hl => ?_, fun k hk => ?_, fun k hk => ?_⟩
  · obtain ⟨⟨t1, t2⟩, t3⟩ := wt g (by omega)
    by_cases q : j = 15
    · subst q; exact (he g (by omega)).trans (if_pos rfl).symm
    rw [zTT_n q]
    by_cases q2 : j = 14
    · subst q2; exact t3
    · exact t1 j (by omega)
  · unfold zTf
    rw [if_pos hj]
    exact wf1 j hj
  · unfold zTL
    rcases clt l hl with ⟨q, q2⟩ | ⟨q, q2⟩
    · rw [if_pos q]
      obtain ⟨x, y, nm, d1, d2, d3, d4, d5, d6⟩ := r6 l hl q
      have hln : (zTl d l).length = y - x := by rw [zTl_e d1 d2, List.length_take, List.length_drop]; omega
      rw [← zTl_e d1 d2] at d6
      have m0 := wr 2 (by decide)
      have k1 := ckn.1
      have k2 := ckn.2.2.2
      refine ⟨hw l hl q, x, nm, (wf 3 (by decide) l hl).trans d1, ((wf 4 (by decide) l hl).trans d2).trans (by rw [hln]; omega), by rw [hln]; omega, fun m hm => ?_, (wf 5 (by decide) l hl).trans d3, d6.2.1, d6.2.2⟩
      rw [hln] at hm
      rw [zTl_get d1 d2 hm]
      have q3 := m0 (x + m) (by omega)
      rwa [Nat.zero_add] at q3
    · rw [if_neg (by omega)]
      exact q2
  · have q := wr 14 (by decide) k (by omega)
    rwa [Nat.zero_add] at q
  · have q := wr 15 (by decide) k (by omega)
    rwa [Nat.zero_add] at q
theorem zKS_T (a : zWD b h s d) (c : zSC b h s) : zKS h b s.2.2.2.2.1.length (fun w => (d.1 9).getD w 0) (fun w => (d.1 10).getD w 0) (fun w => (d.1 11).getD w 0) := by
  obtain ⟨⟨⟨w1, w2, w3⟩, -⟩, ⟨-, wr⟩, -⟩ := a
  refine ⟨c.2.2.2.2.1.1, fun w hw => ?_⟩
  have q9 := wr 9 (by decide) w (by omega)
  have q10 := wr 10 (by decide) w (by omega)
  have q11 := wr 11 (by decide) w (by omega)
  rw [Nat.zero_add] at q9 q10 q11
  exact ⟨q9, q10, q11⟩
/-- pointers of a plan -/
theorem zPM_P (a : zPM b h) : zKP h b ∧ zKQ h b := ⟨⟨a.1 0 (by decide), a.1 1 (by decide), a.1 4 (by decide), a.1 5 (by decide), a.1 6 (by decide), a.1 17 (by decide), a.1 18 (by decide)⟩, a.1 7 (by decide), a.1 11 (by decide), a.1 12 (by decide), a.1 13 (by decide), a.2⟩
/-- gates begun: in range, the same on both sides -/
theorem gBg_G {T : Nat → Int} (rT : gTR T) {m0 m1 m2 : Int} (h0 : 0 ≤ m0 ∧ m0 ≤ 6000) (h1 : 0 ≤ m1 ∧ m1 ≤ 6000) (h2 : 0 ≤ m2 ∧ m2 ≤ 6000) : gGR (gBegin T m0 m1 m2) := by
  obtain ⟨t0, t1, t2, t3, t5, t6, t7, t8, t9, t10, t11, t12, t13, t14⟩ := rT
  refine ⟨?_, ?_, ?_, ?_, ?_, t9, ?_, ?_, ?_, ?_, t14, h0, h1, h2, t5, t6⟩
  · show (0 : Int) ≤ 0 ∧ (0 : Int) ≤ 1000000; omega
  · show (0 : Int) ≤ 0 ∧ (0 : Int) ≤ 1000000; omega
  · show (0 : Int) ≤ 0 ∧ (0 : Int) ≤ 1000000; omega
  · show (-300000000 : Int) ≤ 0 ∧ (0 : Int) ≤ 300000000; omega
  · show 0 ≤ T 7 ∧ T 7 ≤ 1000; omega
  · show (0 : Int) ≤ 0 ∧ (0 : Int) ≤ 100; omega
  · show (0 : Int) ≤ 0 ∧ (0 : Int) ≤ 10000; omega
  · show 0 ≤ T 12 ∧ T 12 ≤ 300; omega
  · show (0 : Int) ≤ 0 ∧ (0 : Int) < 64; omega
theorem gBg_C {T : Nat → Int} {dk dv : List Int} {n : Nat} : zCA dk dv n (gBegin T (zMs dk dv (T 14).toNat 0 n) (zMs dk dv (T 14).toNat 1 n) (zMs dk dv (T 14).toNat 2 n)) := ⟨rfl, rfl, rfl⟩
theorem gBg_B {T : Nat → Int} {m0 m1 m2 : Int} {j : Nat} (hj : j < 11) : zBg T j = gBegin T m0 m1 m2 (zni j) := by
  rcases (by omega : j = 0 ∨ j = 1 ∨ j = 2 ∨ j = 3 ∨ j = 4 ∨ j = 5 ∨ j = 6 ∨ j = 7 ∨ j = 8 ∨ j = 9 ∨ j = 10) with rfl | rfl | rfl | rfl | rfl | rfl | rfl | rfl | rfl | rfl | rfl <;> rfl
end TW
end
section
/-! ===== text of the class: all of it ===== -/
theorem cw_X_imp {X : cv_X} {mi pc : Nat} {Q R : cv_O → Prop} {L : cv_L} {st : List cv_V} {h : cv_H} (a : cw_X X mi Q pc L st h) (f : ∀ o, Q o → R o) : cw_X X mi R pc L st h := by
  obtain ⟨o, e, q⟩ := a
  exact ⟨o, e, f o q⟩
theorem ef_may_no {W : ef_W} {k i : Nat} (h : W.all (fun w => !(w.1 == k)) = true) : ef_may W k i = false := by
  unfold ef_may
  rw [List.any_eq_false]
  intro w hw
  have := List.all_eq_true.mp h w hw
  rw [Bool.not_eq_true'] at this
  rw [this]
  exact Bool.false_ne_true
def zRX (sp : Nat) : ef_W := if sp = 26 then ec_X5_readText_0.2.2.2.2.2 else ec_X5_readText_1.2.2.2.2.2
theorem zRX_c {sp k i : Nat} (hs : sp = 2 ∨ sp = 26) (h1 : k < sp ∨ sp + 24 ≤ k) (h50 : k ≠ 50) (h51 : k ≠ 51) (h53 : k ≠ 53) (h54 : k ≠ 54) : ef_may (zRX sp) k i = false := by
  refine ef_may_no (List.all_eq_true.mpr (fun w hw => ?_))
  have c : (zRX sp).all (fun w => (Nat.ble sp w.1 && Nat.ble (w.1 + 1) (sp + 24)) || (w.1 == 50 || (w.1 == 51 || (w.1 == 53 || w.1 == 54)))) = true := by
    rcases hs with rfl | rfl <;> decide
  have q := List.all_eq_true.mp c w hw
  simp only [Bool.or_eq_true, Bool.and_eq_true, Nat.ble_eq, beq_iff_eq] at q
  rw [Bool.not_eq_true', beq_eq_false_iff_ne]
  omega
theorem ef_fok_e {T : ef_T} {h h' : cv_H} (e : ∀ t, t ∈ T → cw_at h' t.1 t.2.1 = cw_at h t.1 t.2.1) (a : ef_fok T h) : ef_fok T h' := fun t ht => by
  obtain ⟨c, hc, q⟩ := a t ht
  exact ⟨c, hc, (e t ht).trans q⟩
theorem ef_rok_e {R : ef_U} {h h' : cv_H} (e : ∀ t, t ∈ R → ∀ i, cw_at h' t.1 i = cw_at h t.1 i) (a : ef_rok R h) : ef_rok R h' := fun t ht i v q => a t ht i v ((e t ht i).symm.trans q)
theorem ef_w01 {h h' : cv_H} {v : cv_V} (w : cw_Wr h h' 0 1 v) (a : ef_fok ec_TF h) (b : ef_rok ec_TR h) : ef_fok ec_TF h' ∧ ef_rok ec_TR h' := by
  refine ⟨ef_fok_e (fun t ht => w.2.1 _ _ ?_) a, ef_rok_e (fun t ht i => w.2.1 _ _ (.inl ?_)) b⟩
  · have c : ec_TF.all (fun t => !(t.1 == 0) || !(t.2.1 == 1)) = true := by decide
    have q := List.all_eq_true.mp c t ht
    simp only [Bool.or_eq_true, Bool.not_eq_true', beq_eq_false_iff_ne] at q
    exact q
  · have c : ec_TR.all (fun t => !(t.1 == 0)) = true := by decide
    have q := List.all_eq_true.mp c t ht
    simp only [Bool.not_eq_true', beq_eq_false_iff_ne] at q
    exact q
theorem ef_ok_i {x : Int32} : ef_ok (some []) (cv_i x) := fun l e => by cases e; exact .inl ⟨rfl, rfl⟩
/-- what a text that fails may change -/
def zTF (sp : Nat) (h h' : cv_H) : Prop := (∀ k i, k ≠ 0 → (k < sp ∨ sp + 24 ≤ k) → k ≠ 50 → k ≠ 51 → k ≠ 53 → k ≠ 54 → cw_at h' k i = cw_at h k i) ∧ ∀ i, i ≠ 1 → cw_at h' 0 i = cw_at h 0 i
/-- what a text makes of the class -/
def zTz (S : (Int × Nat) ⊕ (zSg × Int)) (d : zDt) (pl sp : Nat) (h0 h : cv_H) : Prop := match S with
  | .inl _ => zTF sp h0 h
  | .inr (s, _) => ∃ hm, zTF sp h0 hm ∧ zPM sp hm ∧ zSC sp hm s ∧ zWD sp hm s d ∧ zDR s d ∧ zTS hm h pl sp (d.1 14) (d.1 15) s.2.2.2.2.2.length
section GN
variable {G : Int} {X : cv_X} {Q : cv_O → Prop} {h0 h : cv_H} {t : Nat → Int}
theorem ct_rdE {n : Nat} (ht : ∀ i, t i = ri_at h0 1 i % 256) (hwd : ∀ i, i < 34 → ri_at h0 52 i = tz_wc.getD i 0) (hn9 : n ≤ 900) (hT : cw_T G h0) {b : Nat} (hb : b = 2 ∨ b = 26) (hpm : zPM b h0) (hrp : ∀ i, i < 4 → cw_at h0 (b + 16 + 2 * i) 16 = some (cv_r (b + 16 + 2 * i + 1))) (hTF : ef_fok ec_TF h0) (hTR : ef_rok ec_TR h0) {N : Int32} (hN : N.toInt = n) (hQ : ∀ (x : Int32) h', cw_T G h' → zTc (ztx t n 901 0 (0, (fun _ => 0), 0, [], [], []) 0) x h' → zXd (ztx t n 901 0 (0, (fun _ => 0), 0, [], [], []) 0) b (ztD t n 901 (0, (fun _ => 0), 0, [], [], []) 0 zD0) h' → ef_fr (zRX b) h0 h' → Q (some (cv_i x), h')) : cw_X X 60 Q 0 (cv_ent 0 [cv_r 50, cv_r b, cv_i N]) [] h0 := by
  have a := ct_readTextD (X := X) (Q := fun o => ∃ (x : Int32) (hb : cv_H), o = (some (cv_i x), hb) ∧ cw_T G hb ∧ zTc (ztx t n 901 0 (0, (fun _ => 0), 0, [], [], []) 0) x hb ∧ zXd (ztx t n 901 0 (0, (fun _ => 0), 0, [], [], []) 0) b (ztD t n 901 (0, (fun _ => 0), 0, [], [], []) 0 zD0) hb) ht hwd hn9 hT hb hpm hrp hN (fun x hb b1 _ b3 b4 => ⟨x, hb, rfl, b1, b3, b4⟩)
  rcases hb with rfl | rfl
  · have c := ef_X ec_run (K := ec_X5_readText_1) (List.mem_of_getElem? (i := 104) rfl) (show ef_zok [some [50], some [2], some []] [cv_r 50, cv_r 2, cv_i N] from ⟨ef_ok_some (by decide), ef_ok_some (by decide), ef_ok_i, trivial⟩) hTF hTR (fun t ht => absurd (show t ∈ ([] : ef_T) from ht) List.not_mem_nil) a
    refine cw_X_imp c (fun o q => ?_)
    obtain ⟨⟨x, hb, rfl, b1, b3, b4⟩, c1, c2, c3, c4, c5⟩ := q
    exact hQ x hb b1 b3 b4 c4
  · have c := ef_X ec_run (K := ec_X5_readText_0) (List.mem_of_getElem? (i := 52) rfl) (show ef_zok [some [50], some [26], some []] [cv_r 50, cv_r 26, cv_i N] from ⟨ef_ok_some (by decide), ef_ok_some (by decide), ef_ok_i, trivial⟩) hTF hTR (fun t ht => absurd (show t ∈ ([] : ef_T) from ht) List.not_mem_nil) a
    refine cw_X_imp c (fun o q => ?_)
    obtain ⟨⟨x, hb, rfl, b1, b3, b4⟩, c1, c2, c3, c4, c5⟩ := q
    exact hQ x hb b1 b3 b4 c4
theorem zRX_p {sp j : Nat} (hs : sp = 2 ∨ sp = 26) (hj : j ∈ ([0, 1, 4, 5, 6, 7, 8, 10, 11, 12, 13, 15, 16, 17, 18] : List Nat)) : ef_may (zRX sp) sp j = false := by
  have c : ([0, 1, 4, 5, 6, 7, 8, 10, 11, 12, 13, 15, 16, 17, 18] : List Nat).all (fun j => !ef_may (zRX sp) sp j) = true := by rcases hs with rfl | rfl <;> decide
  have q := List.all_eq_true.mp c j hj
  rwa [Bool.not_eq_true'] at q
theorem zRX_q {sp j : Nat} (hs : sp = 2 ∨ sp = 26) : ef_may (zRX sp) (sp + 6) j = false := by
  refine ef_may_no ?_
  rcases hs with rfl | rfl <;> decide
set_option maxHeartbeats 8000000 in
theorem ct_text4 (hT : cw_T G h0) (n : Int32) (ht : ∀ i, t i = ri_at h0 1 i % 256) (hwd : ∀ i, i < 34 → ri_at h0 52 i = tz_wc.getD i 0) (hw5 : ∀ p, p ≤ n.toInt.toNat → zk t n.toInt.toNat p = 5 → 0 ≤ zw t n.toInt.toNat p ∧ zw t n.toInt.toNat p ≤ 5) {pl sp : Nat} (hp4 : cw_sh[pl]? = some 4) (hs4 : cw_sh[sp]? = some 4) (hp2 : cw_at h0 0 2 = some (cv_r pl)) (hp3 : cw_at h0 0 3 = some (cv_r sp)) (hpm : zPM sp h0) (hrp : ∀ i, i < 4 → cw_at h0 (sp + 16 + 2 * i) 16 = some (cv_r (sp + 16 + 2 * i + 1))) (hTF : ef_fok ec_TF h0) (hTR : ef_rok ec_TR h0) (kC : zKC h0) (hQ1 : ∀ x : Int32, x.toInt = -2 → (n.toInt < 0 ∨ ri_at h0 0 1 < n.toInt) → Q (some (cv_i x), h0)) (hQ2 : 0 ≤ n.toInt → n.toInt ≤ ri_at h0 0 1 → ∀ (x : Int32) h', cw_T G h' → zTc (ztx t n.toInt.toNat 901 0 (0, (fun _ => 0), 0, [], [], []) 0) x h' → ri_at h' 0 1 = 0 → zTz (ztx t n.toInt.toNat 901 0 (0, (fun _ => 0), 0, [], [], []) 0) (ztD t n.toInt.toNat 901 (0, (fun _ => 0), 0, [], [], []) 0 zD0) pl sp h0 h' → Q (some (cv_i x), h')) : cw_X X 109 Q 0 (cv_ent 0 [cv_r 0, cv_i n]) [] h0 := by
  refine ex_il oq_X11_text_0 rfl ?_
  refine ex_if0 oq_X11_text_1 (t := 12) rfl rfl (fun (c101 : n.toInt < 0) => ?_) (fun (c101 : ¬ (n.toInt < 0)) => ?_)
  · refine ex_bi oq_X11_text_12 (m := (-2)) (by decide) (fun x102 hx102 => ?_)
    exact ex_reti oq_X11_text_14 rfl (hQ1 x102 (by omega) (by omega))
  · refine ex_il oq_X11_text_4 rfl ?_
    refine ex_al oq_X11_text_5 rfl ?_
    obtain ⟨x103, ax103, rx103, lx103, ux103⟩ := ri_fld (k := 0) (d := 11) (f := 1) hT rfl rfl rfl
    try dsimp only at lx103 ux103
    refine ex_gf oq_X11_text_6 hT (k := 0) (d := 11) rfl rfl ax103 ?_
    refine ex_if oq_X11_text_9 (t := 15) rfl rfl (fun (c104 : n.toInt ≤ x103.toInt) => ?_) (fun (c104 : ¬ (n.toInt ≤ x103.toInt)) => ?_)
    · refine ex_al oq_X11_text_15 rfl ?_
      refine ex_ic oq_X11_text_16 (m := 0) (by decide) (fun x105 hx105 => ?_)
      refine ex_pfi oq_X11_text_17 hT (k := 0) (d := 11) rfl rfl rfl (by omega) (by omega) (fun h106 Th106 wh106 => ?_)
      refine ex_al oq_X11_text_20 rfl ?_
      refine ex_gf oq_X11_text_21 Th106 (k := 0) (d := 11) rfl rfl (ri_ref (k := 0) (k' := 50) (d := 11) (f := 4) Th106 rfl rfl rfl (by decide) (ri_uniq (by decide +kernel))) ?_
      refine ex_al oq_X11_text_24 rfl ?_
      refine ex_gf oq_X11_text_25 Th106 (k := 0) (d := 11) rfl rfl (((wh106.2.1 0 3 (.inr (by decide))).trans hp3)) ?_
      refine ex_il oq_X11_text_28 rfl ?_
      have hs226 := sh_4 hs4
      have ef1 := ef_w01 wh106 hTF hTR
      refine ex_cv oq_X11_text_29 (by decide) Th106 (k := 50) (d := 5) (as := [cv_r sp, cv_i n]) (stk := []) rfl rfl rfl rfl rfl rfl ⟨rfl, rfl⟩ (R := fun o => ∃ (x : Int32) (hb : cv_H), o = (some (cv_i x), hb) ∧ cw_T G hb ∧ zTc (ztx t n.toInt.toNat 901 0 (0, (fun _ => 0), 0, [], [], []) 0) x hb ∧ zXd (ztx t n.toInt.toNat 901 0 (0, (fun _ => 0), 0, [], [], []) 0) sp (ztD t n.toInt.toNat 901 (0, (fun _ => 0), 0, [], [], []) 0 zD0) hb ∧ ef_fr (zRX sp) h106 hb) (ct_rdE (t := t) (n := n.toInt.toNat) (fun i => by rw [ht, ri_ne wh106 (.inl (by decide))]) (fun i hi => by rw [ri_ne wh106 (.inl (by decide))]; exact hwd i hi) (by omega) Th106 hs226 (zPM_w hs226 (.inl rfl) wh106 hpm) (fun i hi => (wh106.2.1 _ _ (.inl (by omega))).trans (hrp i hi)) ef1.1 ef1.2 (N := n) (by omega) (fun x hb b1 b2 b3 b4 => ⟨x, hb, rfl, b1, b2, b3, b4⟩)) (fun o ho => ?_)
      obtain ⟨x107, h108, rfl, Th108, ex107, zh108, fh108⟩ := ho
      show cw_X _ _ _ _ _ [cv_i x107] h108
      have Fh108 : zTF sp h0 h108 := ⟨fun k i a b c d e f => (fh108 k i (zRX_c hs226 b c d e f)).trans (wh106.2.1 k i (.inl a)), fun i a => (fh108 0 i (zRX_c hs226 (by omega) (by decide) (by decide) (by decide) (by decide))).trans (wh106.2.1 0 i (.inr a))⟩
      refine ex_isA oq_X11_text_32 (fun L109 gL109_2 kL109 => ?_)
      have gL109_0 : cv_get L109 0 = some (cv_r 0) := kL109 0 _ (by decide) (fun q => absurd q (by decide)) rfl
      have gL109_1 : cv_get L109 1 = some (cv_i n) := kL109 1 _ (by decide) (fun _ => rfl) rfl
      refine ex_il oq_X11_text_33 gL109_2 ?_
      refine ex_ic oq_X11_text_34 (m := (-1)) (by decide) (fun x110 hx110 => ?_)
      refine ex_if oq_X11_text_35 (t := 42) rfl rfl (fun (c111 : x107.toInt = x110.toInt) => ?_) (fun (c111 : ¬ (x107.toInt = x110.toInt)) => ?_)
      · refine ex_il oq_X11_text_42 gL109_2 ?_
        obtain ⟨q1, eS⟩ : ∃ q1, ztx t n.toInt.toNat 901 0 (0, (fun _ => 0), 0, [], [], []) 0 = .inl q1 := by
          cases eS : ztx t n.toInt.toNat 901 0 (0, (fun _ => 0), 0, [], [], []) 0 with
          | inl q => exact ⟨q, rfl⟩
          | inr q =>
            obtain ⟨s1, k1⟩ := q
            rw [eS] at ex107
            have := ztx_k _ _ _ _ _ _ eS
            exact absurd ex107.1 (by omega)
        exact ex_reti oq_X11_text_43 rfl (hQ2 (by omega) (by omega) x107 h108 Th108 ex107 ((ri_eq (fh108 0 1 (zRX_c hs226 (by omega) (by decide) (by decide) (by decide) (by decide)))).trans ((ri_self wh106).trans (by omega))) (by rw [eS]; exact Fh108))
      · refine ex_al oq_X11_text_38 gL109_0 ?_
        obtain ⟨s1, k1, eS⟩ : ∃ s1 k1, ztx t n.toInt.toNat 901 0 (0, (fun _ => 0), 0, [], [], []) 0 = .inr (s1, k1) := by
          cases eS : ztx t n.toInt.toNat 901 0 (0, (fun _ => 0), 0, [], [], []) 0 with
          | inl q => rw [eS] at ex107; exact absurd ex107.1 (by omega)
          | inr q => exact ⟨q.1, q.2, rfl⟩
        have zx := zh108
        rw [eS] at zx
        obtain ⟨zs, zw⟩ := zx
        have dr : zDR s1 (ztD t n.toInt.toNat 901 (0, (fun _ => 0), 0, [], [], []) 0 zD0) := ztD_R (by omega) hw5 901 0 _ 0 _ _ _ (Nat.zero_le _) eS zDR_0 (by omega)
        have pm : zPM sp h108 := ⟨fun j q => (fh108 sp j (zRX_p hs226 q)).trans ((zPM_w hs226 (.inl rfl) wh106 hpm).1 j q), fun j q => (fh108 (sp + 6) j (zRX_q hs226)).trans ((zPM_w hs226 (.inl rfl) wh106 hpm).2 j q)⟩
        refine ex_cv oq_X11_text_39 (by decide) Th108 (k := 0) (d := 11) (as := []) (stk := []) rfl rfl rfl rfl rfl rfl ⟨rfl, rfl⟩ (R := fun o => ∃ hb : cv_H, o = (none, hb) ∧ cw_T G hb ∧ zTS h108 hb pl sp ((ztD t n.toInt.toNat 901 (0, (fun _ => 0), 0, [], [], []) 0 zD0).1 14) ((ztD t n.toInt.toNat 901 (0, (fun _ => 0), 0, [], [], []) 0 zD0).1 15) s1.2.2.2.2.2.length) (ct_tsD Th108 (dk := (ztD t n.toInt.toNat 901 (0, (fun _ => 0), 0, [], [], []) 0 zD0).1 14) (dv := (ztD t n.toInt.toNat 901 (0, (fun _ => 0), 0, [], [], []) 0 zD0).1 15) (n := s1.2.2.2.2.2.length) hs4 pm zs.2.2.2.2.2.1.1 dr.1.2.2.2 (fun c q => by have := zw.2.1.2 14 (by decide) c (by have := dr.1.1.2.2.1; omega); rwa [Nat.zero_add] at this) (fun c q => by have := zw.2.1.2 15 (by decide) c (by have := dr.1.1.2.2.2; omega); rwa [Nat.zero_add] at this) (fun c => (zPD_T (e := fun _ => 0) dr).2.2.2.2.1 c) (fun g q => by rw [(zw.2.2.2.1 g q).2]; obtain ⟨_, _, _, _, u⟩ := dr.2.2.2.1 g q; exact u) (fun g q => ⟨(Fh108.1 61 g (by decide) (by omega) (by decide) (by decide) (by decide) (by decide)).trans (kC g q).1, (Fh108.1 62 g (by decide) (by omega) (by decide) (by decide) (by decide) (by decide)).trans (kC g q).2⟩) hp4 ((Fh108.2 2 (by decide)).trans hp2) ((Fh108.2 3 (by decide)).trans hp3) (fun hb b1 b2 => ⟨hb, rfl, b1, b2⟩)) (fun o ho => ?_)
        obtain ⟨h112, rfl, Th112, ts⟩ := ho
        show cw_X _ _ _ _ _ [] h112
        refine ex_il oq_X11_text_42 gL109_2 ?_
        have e50 : ∀ i, ri_at h112 50 i = ri_at h108 50 i := fun i => ri_eq (at_h (ts.1 50 (by decide) (by decide) (by decide) (by decide) (by decide) (fun g _ => by omega)))
        refine ex_reti oq_X11_text_43 rfl (hQ2 (by omega) (by omega) x107 h112 Th112 ?_ ((ri_eq (ts.2.1 1 (by decide) (by decide) (by decide) (by decide))).trans ((ri_eq (fh108 0 1 (zRX_c hs226 (by omega) (by decide) (by decide) (by decide) (by decide)))).trans ((ri_self wh106).trans (by omega)))) (by rw [eS]; exact ⟨h108, Fh108, pm, zs, zw, dr, ts⟩))
        have q := ex107
        rw [eS] at q ⊢
        exact ⟨q.1, (e50 4).trans q.2.1, (e50 5).trans q.2.2⟩
    · refine ex_bi oq_X11_text_12 (m := (-2)) (by decide) (fun x113 hx113 => ?_)
      exact ex_reti oq_X11_text_14 rfl (hQ1 x113 (by omega) (by omega))
end GN
end
section
/-! ===== works taken keep a gate's numbers in range ===== -/
def zPC (S : Nat) : Nat := (if S.testBit 0 then 1 else 0) + (if S.testBit 1 then 1 else 0) + (if S.testBit 2 then 1 else 0) + (if S.testBit 3 then 1 else 0) + (if S.testBit 4 then 1 else 0) + (if S.testBit 5 then 1 else 0)
theorem zPC_b (S : Nat) : zPC S ≤ 6 := by
  unfold zPC
  (repeat' split) <;> omega
theorem zPC_s {S w : Nat} (hS : S < 64) (hw : w < 6) (h : ¬ S.testBit w = true) : zPC (S ||| 2 ^ w) = zPC S + 1 := by
  have : ∀ a : Fin 64, ∀ b : Fin 6, ¬ a.1.testBit b.1 = true → zPC (a.1 ||| 2 ^ b.1) = zPC a.1 + 1 := by decide +kernel
  exact this ⟨S, hS⟩ ⟨w, hw⟩ h
/-- what works have made of a gate, at most -/
def zTk (γ : Nat → Int) : Prop := (0 ≤ γ 4 ∧ γ 4 ≤ 9999 * (zPC (γ 10).toNat : Int)) ∧ (12 ≤ γ 5 ∧ γ 5 ≤ 60 + 60 * (zPC (γ 10).toNat : Int)) ∧ (0 ≤ γ 8 ∧ γ 8 ≤ 99 * (zPC (γ 10).toNat : Int)) ∧ γ 9 ≤ 200
theorem zTk_g {a b : Nat → Int} (e4 : b 4 = a 4) (e5 : b 5 = a 5) (e8 : b 8 = a 8) (e10 : b 10 = a 10) (e9 : b 9 = a 9) (h : zTk a) : zTk b := by
  unfold zTk
  rw [e4, e5, e8, e10, e9]
  exact h
theorem zTk_P {T g : Nat → Int} {LL : Nat → Option (List Int)} {γ : Nat → Int} (h : zTk γ) : ∀ {n : Nat} {w : Int}, zTk (gPs T g LL n w γ) := by
  intro n
  induction n generalizing γ with
  | zero => intro w; exact h
  | succ n ih => intro w; exact ih (γ := gWk T g LL w γ) (zTk_g (a := γ) rfl rfl rfl rfl rfl h)
theorem zTk_B {T : Nat → Int} {m0 m1 m2 : Int} (h : 12 ≤ T 7 ∧ T 7 ≤ 60) (h12 : T 12 ≤ 200) : zTk (gBegin T m0 m1 m2) := by
  refine ⟨?_, ?_, ?_, ?_⟩
  · show (0 : Int) ≤ 0 ∧ (0 : Int) ≤ 9999 * (zPC 0 : Int); exact ⟨by decide, by decide⟩
  · show 12 ≤ T 7 ∧ T 7 ≤ 60 + 60 * (zPC 0 : Int); rw [show zPC 0 = 0 from by decide]; omega
  · show (0 : Int) ≤ 0 ∧ (0 : Int) ≤ 99 * (zPC 0 : Int); exact ⟨by decide, by decide⟩
  · show T 12 ≤ 200; exact h12
theorem gTake_x {γ : Nat → Int} {k n : Int} {w : Nat} : gTake γ k n w 10 = (((γ 10).toNat ||| 2 ^ w : Nat) : Int) ∧ gTake γ k n w 11 = γ 11 ∧ gTake γ k n w 12 = γ 12 ∧ gTake γ k n w 13 = γ 13 ∧ gTake γ k n w 14 = γ 14 := by
  unfold gTake
  (repeat' split) <;> exact ⟨rfl, rfl, rfl, rfl, rfl⟩
theorem zCA_K {dk dv : List Int} {m : Nat} {γ : Nat → Int} {k n : Int} {w : Nat} (a : zCA dk dv m γ) : zCA dk dv m (gTake γ k n w) := by
  obtain ⟨-, e1, e2, e3, e4⟩ := gTake_x (γ := γ) (k := k) (n := n) (w := w)
  unfold zCA
  rw [e1, e2, e3, e4]
  exact a
theorem gTake_G {γ : Nat → Int} {k n : Int} {w : Nat} (rG : gGR γ) (rT : zTk γ) (hw : w < 6) (hb : ¬ (γ 10).toNat.testBit w = true) (rk : 0 ≤ k ∧ k ≤ 6) (rn : 0 ≤ n ∧ n ≤ zmo k) : gGR (gTake γ k n w) ∧ zTk (gTake γ k n w) := by
  obtain ⟨r1, r2, r3, r4, r5, r6, r7, r8, r9, r10, r11, r12, r13, r14, r15, r16⟩ := rG
  obtain ⟨t4, t5, t8⟩ := rT
  have pc := zPC_s (by omega) hw hb
  have pb := zPC_b ((γ 10).toNat ||| 2 ^ w)
  have b64 := bt_64 (m := (γ 10).toNat) (j := w) (by omega) hw
  revert pc pb b64 t4 t5 t8
  obtain ⟨D, hD⟩ : ∃ D, (γ 10).toNat ||| 2 ^ w = D := ⟨_, rfl⟩
  rw [hD]
  generalize hC : zPC (γ 10).toNat = C
  intro t4 t5 t8 pc pb b64
  rcases (by omega : k = 0 ∨ k = 1 ∨ k = 2 ∨ k = 3 ∨ k = 4 ∨ k = 5 ∨ k = 6) with rfl | rfl | rfl | rfl | rfl | rfl | rfl
  · have rn2 : n ≤ 9999 := rn.2
    rw [gTake_0 rfl, hD]
    exact ⟨⟨(show (0 : Int) ≤ γ 1 ∧ γ 1 ≤ 1000000 from by omega), (show (0 : Int) ≤ γ 2 ∧ γ 2 ≤ 1000000 from by omega), (show (0 : Int) ≤ γ 3 ∧ γ 3 ≤ 1000000 from by omega), (show (-300000000 : Int) ≤ γ 4 ∧ γ 4 ≤ 300000000 from by omega), (show (0 : Int) ≤ γ 5 ∧ γ 5 ≤ 1000 from by omega), (show (0 : Int) ≤ (1 : Int) ∧ (1 : Int) ≤ 2 from by omega), (show (0 : Int) ≤ γ 7 ∧ γ 7 ≤ 100 from by omega), (show (0 : Int) ≤ γ 8 ∧ γ 8 ≤ 10000 from by omega), (show (0 : Int) ≤ γ 9 ∧ γ 9 ≤ 300 from by omega), (show 0 ≤ ((D : Nat) : Int) ∧ ((D : Nat) : Int) < 64 from by omega), (show 0 ≤ γ 11 ∧ γ 11 < 64 from by omega), (show (0 : Int) ≤ γ 12 ∧ γ 12 ≤ 6000 from by omega), (show (0 : Int) ≤ γ 13 ∧ γ 13 ≤ 6000 from by omega), (show (0 : Int) ≤ γ 14 ∧ γ 14 ≤ 6000 from by omega), (show (-30 : Int) ≤ γ 15 ∧ γ 15 ≤ 30 from by omega), (show (-30 : Int) ≤ γ 16 ∧ γ 16 ≤ 30 from by omega)⟩, (show (0 ≤ γ 4 ∧ γ 4 ≤ 9999 * (zPC (((D : Nat) : Int)).toNat : Int)) ∧ (12 ≤ γ 5 ∧ γ 5 ≤ 60 + 60 * (zPC (((D : Nat) : Int)).toNat : Int)) ∧ (0 ≤ γ 8 ∧ γ 8 ≤ 99 * (zPC (((D : Nat) : Int)).toNat : Int)) ∧ γ 9 ≤ 200 from by rw [Int.toNat_natCast]; omega)⟩
  · have rn2 : n ≤ 9999 := rn.2
    rw [gTake_1 rfl, hD]
    exact ⟨⟨(show (0 : Int) ≤ γ 1 ∧ γ 1 ≤ 1000000 from by omega), (show (0 : Int) ≤ (0 : Int) ∧ (0 : Int) ≤ 1000000 from by omega), (show (0 : Int) ≤ γ 3 ∧ γ 3 ≤ 1000000 from by omega), (show (-300000000 : Int) ≤ γ 4 ∧ γ 4 ≤ 300000000 from by omega), (show (0 : Int) ≤ γ 5 ∧ γ 5 ≤ 1000 from by omega), (show (0 : Int) ≤ γ 6 ∧ γ 6 ≤ 2 from by omega), (show (0 : Int) ≤ γ 7 ∧ γ 7 ≤ 100 from by omega), (show (0 : Int) ≤ γ 8 ∧ γ 8 ≤ 10000 from by omega), (show (0 : Int) ≤ γ 9 ∧ γ 9 ≤ 300 from by omega), (show 0 ≤ ((D : Nat) : Int) ∧ ((D : Nat) : Int) < 64 from by omega), (show 0 ≤ γ 11 ∧ γ 11 < 64 from by omega), (show (0 : Int) ≤ γ 12 ∧ γ 12 ≤ 6000 from by omega), (show (0 : Int) ≤ γ 13 ∧ γ 13 ≤ 6000 from by omega), (show (0 : Int) ≤ γ 14 ∧ γ 14 ≤ 6000 from by omega), (show (-30 : Int) ≤ γ 15 ∧ γ 15 ≤ 30 from by omega), (show (-30 : Int) ≤ γ 16 ∧ γ 16 ≤ 30 from by omega)⟩, (show (0 ≤ γ 4 ∧ γ 4 ≤ 9999 * (zPC (((D : Nat) : Int)).toNat : Int)) ∧ (12 ≤ γ 5 ∧ γ 5 ≤ 60 + 60 * (zPC (((D : Nat) : Int)).toNat : Int)) ∧ (0 ≤ γ 8 ∧ γ 8 ≤ 99 * (zPC (((D : Nat) : Int)).toNat : Int)) ∧ γ 9 ≤ 200 from by rw [Int.toNat_natCast]; omega)⟩
  · have rn2 : n ≤ 9999 := rn.2
    rw [gTake_2 rfl, hD]
    exact ⟨⟨(show (0 : Int) ≤ γ 1 ∧ γ 1 ≤ 1000000 from by omega), (show (0 : Int) ≤ γ 2 ∧ γ 2 ≤ 1000000 from by omega), (show (0 : Int) ≤ γ 3 ∧ γ 3 ≤ 1000000 from by omega), (show (-300000000 : Int) ≤ γ 4 + n ∧ γ 4 + n ≤ 300000000 from by omega), (show (0 : Int) ≤ γ 5 ∧ γ 5 ≤ 1000 from by omega), (show (0 : Int) ≤ γ 6 ∧ γ 6 ≤ 2 from by omega), (show (0 : Int) ≤ γ 7 ∧ γ 7 ≤ 100 from by omega), (show (0 : Int) ≤ γ 8 ∧ γ 8 ≤ 10000 from by omega), (show (0 : Int) ≤ γ 9 ∧ γ 9 ≤ 300 from by omega), (show 0 ≤ ((D : Nat) : Int) ∧ ((D : Nat) : Int) < 64 from by omega), (show 0 ≤ γ 11 ∧ γ 11 < 64 from by omega), (show (0 : Int) ≤ γ 12 ∧ γ 12 ≤ 6000 from by omega), (show (0 : Int) ≤ γ 13 ∧ γ 13 ≤ 6000 from by omega), (show (0 : Int) ≤ γ 14 ∧ γ 14 ≤ 6000 from by omega), (show (-30 : Int) ≤ γ 15 ∧ γ 15 ≤ 30 from by omega), (show (-30 : Int) ≤ γ 16 ∧ γ 16 ≤ 30 from by omega)⟩, (show (0 ≤ γ 4 + n ∧ γ 4 + n ≤ 9999 * (zPC (((D : Nat) : Int)).toNat : Int)) ∧ (12 ≤ γ 5 ∧ γ 5 ≤ 60 + 60 * (zPC (((D : Nat) : Int)).toNat : Int)) ∧ (0 ≤ γ 8 ∧ γ 8 ≤ 99 * (zPC (((D : Nat) : Int)).toNat : Int)) ∧ γ 9 ≤ 200 from by rw [Int.toNat_natCast]; omega)⟩
  · have rn2 : n ≤ 100 := rn.2
    rw [gTake_3 rfl, hD]
    exact ⟨⟨(show (0 : Int) ≤ γ 1 ∧ γ 1 ≤ 1000000 from by omega), (show (0 : Int) ≤ γ 2 ∧ γ 2 ≤ 1000000 from by omega), (show (0 : Int) ≤ γ 3 ∧ γ 3 ≤ 1000000 from by omega), (show (-300000000 : Int) ≤ γ 4 ∧ γ 4 ≤ 300000000 from by omega), (show (0 : Int) ≤ γ 5 ∧ γ 5 ≤ 1000 from by omega), (show (0 : Int) ≤ γ 6 ∧ γ 6 ≤ 2 from by omega), (show (0 : Int) ≤ n ∧ n ≤ 100 from by omega), (show (0 : Int) ≤ γ 8 ∧ γ 8 ≤ 10000 from by omega), (show (0 : Int) ≤ γ 9 ∧ γ 9 ≤ 300 from by omega), (show 0 ≤ ((D : Nat) : Int) ∧ ((D : Nat) : Int) < 64 from by omega), (show 0 ≤ γ 11 ∧ γ 11 < 64 from by omega), (show (0 : Int) ≤ γ 12 ∧ γ 12 ≤ 6000 from by omega), (show (0 : Int) ≤ γ 13 ∧ γ 13 ≤ 6000 from by omega), (show (0 : Int) ≤ γ 14 ∧ γ 14 ≤ 6000 from by omega), (show (-30 : Int) ≤ γ 15 ∧ γ 15 ≤ 30 from by omega), (show (-30 : Int) ≤ γ 16 ∧ γ 16 ≤ 30 from by omega)⟩, (show (0 ≤ γ 4 ∧ γ 4 ≤ 9999 * (zPC (((D : Nat) : Int)).toNat : Int)) ∧ (12 ≤ γ 5 ∧ γ 5 ≤ 60 + 60 * (zPC (((D : Nat) : Int)).toNat : Int)) ∧ (0 ≤ γ 8 ∧ γ 8 ≤ 99 * (zPC (((D : Nat) : Int)).toNat : Int)) ∧ γ 9 ≤ 200 from by rw [Int.toNat_natCast]; omega)⟩
  · have rn2 : n ≤ 99 := rn.2
    rw [gTake_4 rfl, hD]
    exact ⟨⟨(show (0 : Int) ≤ γ 1 ∧ γ 1 ≤ 1000000 from by omega), (show (0 : Int) ≤ γ 2 ∧ γ 2 ≤ 1000000 from by omega), (show (0 : Int) ≤ γ 3 ∧ γ 3 ≤ 1000000 from by omega), (show (-300000000 : Int) ≤ γ 4 ∧ γ 4 ≤ 300000000 from by omega), (show (0 : Int) ≤ γ 5 ∧ γ 5 ≤ 1000 from by omega), (show (0 : Int) ≤ γ 6 ∧ γ 6 ≤ 2 from by omega), (show (0 : Int) ≤ γ 7 ∧ γ 7 ≤ 100 from by omega), (show (0 : Int) ≤ γ 8 + n ∧ γ 8 + n ≤ 10000 from by omega), (show (0 : Int) ≤ γ 9 ∧ γ 9 ≤ 300 from by omega), (show 0 ≤ ((D : Nat) : Int) ∧ ((D : Nat) : Int) < 64 from by omega), (show 0 ≤ γ 11 ∧ γ 11 < 64 from by omega), (show (0 : Int) ≤ γ 12 ∧ γ 12 ≤ 6000 from by omega), (show (0 : Int) ≤ γ 13 ∧ γ 13 ≤ 6000 from by omega), (show (0 : Int) ≤ γ 14 ∧ γ 14 ≤ 6000 from by omega), (show (-30 : Int) ≤ γ 15 ∧ γ 15 ≤ 30 from by omega), (show (-30 : Int) ≤ γ 16 ∧ γ 16 ≤ 30 from by omega)⟩, (show (0 ≤ γ 4 ∧ γ 4 ≤ 9999 * (zPC (((D : Nat) : Int)).toNat : Int)) ∧ (12 ≤ γ 5 ∧ γ 5 ≤ 60 + 60 * (zPC (((D : Nat) : Int)).toNat : Int)) ∧ (0 ≤ γ 8 + n ∧ γ 8 + n ≤ 99 * (zPC (((D : Nat) : Int)).toNat : Int)) ∧ γ 9 ≤ 200 from by rw [Int.toNat_natCast]; omega)⟩
  · have rn2 : n ≤ 60 := rn.2
    rw [gTake_5 rfl, hD]
    exact ⟨⟨(show (0 : Int) ≤ (0 : Int) ∧ (0 : Int) ≤ 1000000 from by omega), (show (0 : Int) ≤ γ 2 ∧ γ 2 ≤ 1000000 from by omega), (show (0 : Int) ≤ γ 3 ∧ γ 3 ≤ 1000000 from by omega), (show (-300000000 : Int) ≤ γ 4 ∧ γ 4 ≤ 300000000 from by omega), (show (0 : Int) ≤ γ 5 + n ∧ γ 5 + n ≤ 1000 from by omega), (show (0 : Int) ≤ γ 6 ∧ γ 6 ≤ 2 from by omega), (show (0 : Int) ≤ γ 7 ∧ γ 7 ≤ 100 from by omega), (show (0 : Int) ≤ γ 8 ∧ γ 8 ≤ 10000 from by omega), (show (0 : Int) ≤ γ 9 ∧ γ 9 ≤ 300 from by omega), (show 0 ≤ ((D : Nat) : Int) ∧ ((D : Nat) : Int) < 64 from by omega), (show 0 ≤ γ 11 ∧ γ 11 < 64 from by omega), (show (0 : Int) ≤ γ 12 ∧ γ 12 ≤ 6000 from by omega), (show (0 : Int) ≤ γ 13 ∧ γ 13 ≤ 6000 from by omega), (show (0 : Int) ≤ γ 14 ∧ γ 14 ≤ 6000 from by omega), (show (-30 : Int) ≤ γ 15 ∧ γ 15 ≤ 30 from by omega), (show (-30 : Int) ≤ γ 16 ∧ γ 16 ≤ 30 from by omega)⟩, (show (0 ≤ γ 4 ∧ γ 4 ≤ 9999 * (zPC (((D : Nat) : Int)).toNat : Int)) ∧ (12 ≤ γ 5 + n ∧ γ 5 + n ≤ 60 + 60 * (zPC (((D : Nat) : Int)).toNat : Int)) ∧ (0 ≤ γ 8 ∧ γ 8 ≤ 99 * (zPC (((D : Nat) : Int)).toNat : Int)) ∧ γ 9 ≤ 200 from by rw [Int.toNat_natCast]; omega)⟩
  · have rn2 : n ≤ 9999 := rn.2
    rw [gTake_6 rfl, hD]
    exact ⟨⟨(show (0 : Int) ≤ γ 1 ∧ γ 1 ≤ 1000000 from by omega), (show (0 : Int) ≤ γ 2 ∧ γ 2 ≤ 1000000 from by omega), (show (0 : Int) ≤ (0 : Int) ∧ (0 : Int) ≤ 1000000 from by omega), (show (-300000000 : Int) ≤ γ 4 + n ∧ γ 4 + n ≤ 300000000 from by omega), (show (0 : Int) ≤ γ 5 ∧ γ 5 ≤ 1000 from by omega), (show (0 : Int) ≤ γ 6 ∧ γ 6 ≤ 2 from by omega), (show (0 : Int) ≤ γ 7 ∧ γ 7 ≤ 100 from by omega), (show (0 : Int) ≤ γ 8 ∧ γ 8 ≤ 10000 from by omega), (show (0 : Int) ≤ γ 9 ∧ γ 9 ≤ 300 from by omega), (show 0 ≤ ((D : Nat) : Int) ∧ ((D : Nat) : Int) < 64 from by omega), (show 0 ≤ γ 11 ∧ γ 11 < 64 from by omega), (show (0 : Int) ≤ γ 12 ∧ γ 12 ≤ 6000 from by omega), (show (0 : Int) ≤ γ 13 ∧ γ 13 ≤ 6000 from by omega), (show (0 : Int) ≤ γ 14 ∧ γ 14 ≤ 6000 from by omega), (show (-30 : Int) ≤ γ 15 ∧ γ 15 ≤ 30 from by omega), (show (-30 : Int) ≤ γ 16 ∧ γ 16 ≤ 30 from by omega)⟩, (show (0 ≤ γ 4 + n ∧ γ 4 + n ≤ 9999 * (zPC (((D : Nat) : Int)).toNat : Int)) ∧ (12 ≤ γ 5 ∧ γ 5 ≤ 60 + 60 * (zPC (((D : Nat) : Int)).toNat : Int)) ∧ (0 ≤ γ 8 ∧ γ 8 ≤ 99 * (zPC (((D : Nat) : Int)).toNat : Int)) ∧ γ 9 ≤ 200 from by rw [Int.toNat_natCast]; omega)⟩
end
section
/-! ===== what both sides hold between calls ===== -/
abbrev zPp : Type := zSg × zDt × (Nat → Int)
abbrev zQs : Type := Int × (Nat → Nat → Int) × (Nat × (Nat → Nat) × (Nat → Nat → Int)) × Int × (Nat → Nat → Int)
abbrev zng (p : zPp) : Nat := p.1.2.2.2.1.length
abbrev znw (p : zPp) : Nat := p.1.2.2.2.2.1.length
abbrev znc (p : zPp) : Nat := p.1.2.2.2.2.2.length
abbrev zpT (p : zPp) : Nat → Nat → Int := zTT p.2.1 p.2.2
def zpw (p : zPp) (o : Nat) (w : Nat) : Int := (p.2.1.1 o).getD w 0
/-- from which of a gate's numbers on both sides are held to be the same -/
def zlo4 : Nat := 4
def zEq (a b : Nat → Int) : Prop := ∀ j, zlo4 ≤ j → j ≤ 16 → a j = b j
theorem zEq_0 {a : Nat → Int} : zEq a a := fun _ _ _ => rfl
/-- a gate as it may be -/
def zGd (p : zPp) (γ : Nat → Int) : Prop := gGR γ ∧ zCA (p.2.1.1 14) (p.2.1.1 15) (znc p) γ ∧ zTk γ
def zGo (p : zPp) (q : zQs) : Prop := (zDR p.1 p.2.1 ∧ (∀ l : Nat, l < 4 → p.1.2.1 (l : Int) = 1 ∨ p.1.2.1 (l : Int) = 0) ∧ (∀ l : Nat, l < 4 → p.1.2.1 (l : Int) = 1 → zWf (zTl p.2.1 l)) ∧ 0 ≤ p.1.2.2.1 ∧ p.1.2.2.1 ≤ 64) ∧ (0 ≤ q.1 ∧ q.1 ≤ 2000) ∧ (∀ g, g < zng p → zGd p (q.2.1 g)) ∧ (q.2.2.1.1 ≤ 20 ∧ ∀ i, i < q.2.2.1.1 → q.2.2.1.2.1 i < zng p ∧ zGd p (q.2.2.1.2.2 i)) ∧ (q.2.2.2.1 = -1 ∨ (0 ≤ q.2.2.2.1 ∧ q.2.2.2.1 ≤ 2000) ∧ ∀ g, g < zng p → zGd p (q.2.2.2.2 g))
/-- the plan that the class holds -/
def zCp (h : cv_H) (b : Nat) (p : zPp) : Prop := (b = 2 ∨ b = 26) ∧ cw_at h 0 2 = some (cv_r b) ∧ cw_at h 0 3 = some (cv_r (28 - b)) ∧ zKH h b (zng p) (znc p) (zpT p) (zTf p.2.1) (zTL p.1 p.2.1) (p.2.1.1 14) (p.2.1.1 15) ∧ zKS h b (znw p) (zpw p 9) (zpw p 10) (zpw p 11) ∧ ri_at h b 3 = p.1.2.2.1 ∧ (∀ g, g < zng p → ∀ j, j < 9 → ri_at h (b + 16 + 2 * g + 1) j = p.2.1.2 (16 + g) (16 + j)) ∧ ∀ c, c < znc p → ri_at h (b + 13) c = zpw p 13 c
def zCd (h : cv_H) (ng b : Nat) (q : zQs) : Prop := ∃ (Bf : Nat → Nat) (γc υc ιc : Nat → Nat → Int), zKG h b ng (fun g => 103 + 2 * g) γc ∧ (∀ g, g < ng → zEq (γc g) (q.2.1 g)) ∧ zUB h Bf ∧ zUS h b q.2.2.1.1 Bf q.2.2.1.2.1 υc ∧ (∀ i, i < q.2.2.1.1 → zEq (υc i) (q.2.2.1.2.2 i)) ∧ ri_at h 0 8 = q.1 ∧ ri_at h 0 10 = q.2.2.2.1 ∧ (¬ q.2.2.2.1 = -1 → ∀ g, g < ng → zGV h (104 + 2 * g) (ιc g) ∧ cw_at h (104 + 2 * g) 0 = some (cv_r (b + 16 + 2 * g)) ∧ zEq (ιc g) (q.2.2.2.2 g))
/-- which cell is behind which -/
def zCz (h : cv_H) : Prop := ef_fok ec_TF h ∧ ef_rok ec_TR h ∧ zKC h ∧ zPM 2 h ∧ zPM 26 h
def zCE (h : cv_H) (p : zPp) (q : zQs) : Prop := zCz h ∧ ∃ b, zCp h b p ∧ zCd h (zng p) b q
/-- the reference's -/
def zRp (h : cv_H) (p : zPp) : Prop := zRD h (zng p) (znc p) (zpT p) (zTf p.2.1) (zTL p.1 p.2.1) (p.2.1.1 14) (p.2.1.1 15) ∧ zRS h (znw p) (zpw p 9) (zpw p 10) (zpw p 11) ∧ ri_at h 111 15 = p.1.2.2.1 ∧ (∀ g, g < zng p → ∀ j, j < 9 → ri_at h 120 (9 * g + j) = p.2.1.2 (16 + g) (16 + j)) ∧ ∀ c, c < znc p → ri_at h 124 (3 * c) = zpw p 13 c
def zRq (h : cv_H) (ng : Nat) (q : zQs) : Prop := zSS h ng q.2.1 ∧ ri_at h 111 43 = q.1 ∧ zRU h q.2.2.1.1 q.2.2.1.2.1 q.2.2.1.2.2 ∧ (q.2.2.2.1 = -1 ∧ ri_at h 111 66 = 0 ∨ ¬ q.2.2.2.1 = -1 ∧ ri_at h 111 66 = 1 ∧ ri_at h 111 67 = q.2.2.2.1 ∧ ∀ g, g < ng → ∀ j, j < 11 → ri_at h 148 (16 * g + j) = q.2.2.2.2 g (zni j))
def zRQ (h : cv_H) (p : zPp) (q : zQs) : Prop := zRp h p ∧ zRq h (zng p) q
def zNo (h : cv_H) : Prop := ri_at h 86 9 = ri_at h 111 52 ∧ ri_at h 86 10 = ri_at h 111 53
/-- both hold the same -/
def zST (h : cv_H) : Prop := zNo h ∧ ∃ p q, zGo p q ∧ zCE h p q ∧ zRQ h p q
section FR
variable {h h' : cv_H} {b ng : Nat} {p : zPp} {q : zQs}
theorem zGV_a {K : Nat} {γ : Nat → Int} (e : ∀ i, cw_at h' K i = cw_at h K i) (g : zGV h K γ) : zGV h' K γ := fun j hj => (ri_eq (e j)).trans (g j hj)
/-- cells of the class that hold a plan -/
theorem zCp_e (e0 : ∀ i, i = 2 ∨ i = 3 → cw_at h' 0 i = cw_at h 0 i) (e1 : ∀ k i, b ≤ k → k < b + 24 → cw_at h' k i = cw_at h k i) (hng : zng p ≤ 4) (a : zCp h b p) : zCp h' b p := by
  obtain ⟨a1, a2, a3, ⟨k1, k2, k3, k4, k5, k6, k7⟩, ⟨s1, s2⟩, a6, a7, a8⟩ := a
  have r : ∀ k i, b ≤ k → k < b + 24 → ri_at h' k i = ri_at h k i := fun k i u v => ri_eq (e1 k i u v)
  refine ⟨a1, (e0 2 (.inl rfl)).trans a2, (e0 3 (.inr rfl)).trans a3, ⟨(r b 9 (by omega) (by omega)).trans k1, (r b 19 (by omega) (by omega)).trans k2, fun g hg j hj => (r _ j (by omega) (by omega)).trans (k3 g hg j hj), fun j hj => (r _ j (by omega) (by omega)).trans (k4 j hj), fun l hl => zLw_eq (k5 l hl) (fun k i hk => r k i (by omega) (by omega)), fun c hc => (r _ c (by omega) (by omega)).trans (k6 c hc), fun c hc => (r _ c (by omega) (by omega)).trans (k7 c hc)⟩, ⟨(r b 14 (by omega) (by omega)).trans s1, fun w hw => ⟨(r _ w (by omega) (by omega)).trans (s2 w hw).1, (r _ w (by omega) (by omega)).trans (s2 w hw).2.1, (r _ w (by omega) (by omega)).trans (s2 w hw).2.2⟩⟩, (r b 3 (by omega) (by omega)).trans a6, fun g hg j hj => (r _ j (by omega) (by omega)).trans (a7 g hg j hj), fun c hc => (r _ c (by omega) (by omega)).trans (a8 c hc)⟩
theorem zUB_a {Bf : Nat → Nat} (e : ∀ k i, 61 ≤ k → k ≤ 85 → cw_at h' k i = cw_at h k i) (a : zUB h Bf) : zUB h' Bf := ⟨fun i hi => ⟨(e 64 i (by omega) (by omega)).trans (a.1 i hi).1, (a.1 i hi).2⟩, a.2⟩
theorem zUS_a {m : Nat} {Bf ν : Nat → Nat} {υ : Nat → Nat → Int} (e : ∀ k i, 61 ≤ k → k ≤ 85 → cw_at h' k i = cw_at h k i) (B : zUB h Bf) (a : zUS h b m Bf ν υ) : zUS h' b m Bf ν υ := by
  refine ⟨(ri_eq (e 63 2 (by omega) (by omega))).trans a.1, a.2.1, fun i hi => ?_⟩
  have s := a.2.2 i hi
  have bi := B.1 i (by have := a.2.1; omega)
  exact ⟨(ri_eq (e 65 i (by omega) (by omega))).trans s.1, zGV_a (fun j => e _ j (by omega) (by omega)) s.2.1, (e _ 0 (by omega) (by omega)).trans s.2.2⟩
theorem zCd_e (e0 : ∀ i, i = 8 ∨ i = 10 → cw_at h' 0 i = cw_at h 0 i) (e1 : ∀ k i, 61 ≤ k → k ≤ 85 → cw_at h' k i = cw_at h k i) (e2 : ∀ k i, 103 ≤ k → k ≤ 110 → cw_at h' k i = cw_at h k i) (hng : ng ≤ 4) (a : zCd h ng b q) : zCd h' ng b q := by
  obtain ⟨Bf, γc, υc, ιc, a1, a2, a3, a4, a5, a6, a7, a8⟩ := a
  refine ⟨Bf, γc, υc, ιc, fun g hg => ⟨zGV_a (fun j => e2 (103 + 2 * g) j (by omega) (by omega)) (a1 g hg).1, (e2 (103 + 2 * g) 0 (by omega) (by omega)).trans (a1 g hg).2⟩, a2, zUB_a e1 a3, zUS_a e1 a3 a4, a5, (ri_eq (e0 8 (.inl rfl))).trans a6, (ri_eq (e0 10 (.inr rfl))).trans a7, fun c g hg => ?_⟩
  obtain ⟨c1, c2, c3⟩ := a8 c g hg
  exact ⟨zGV_a (fun j => e2 _ j (by omega) (by omega)) c1, (e2 _ 0 (by omega) (by omega)).trans c2, c3⟩
theorem zRp_e (e1 : ∀ k i, 114 ≤ k → k ≤ 127 → cw_at h' k i = cw_at h k i) (e0 : ∀ i, i = 12 ∨ i = 13 ∨ i = 14 ∨ i = 15 → cw_at h' 111 i = cw_at h 111 i) (a : zRp h p) : zRp h' p := by
  obtain ⟨a1, ⟨s1, s2⟩, a3, a4, a5⟩ := a
  have r : ∀ k i, 114 ≤ k → k ≤ 127 → ri_at h' k i = ri_at h k i := fun k i u v => ri_eq (e1 k i u v)
  exact ⟨zRD_eq a1 (fun k i hk => r k i (by omega) (by omega)) (ri_eq (e0 12 (by omega))) (ri_eq (e0 14 (by omega))), ⟨(ri_eq (e0 13 (by omega))).trans s1, fun w hw => ⟨(r 122 _ (by omega) (by omega)).trans (s2 w hw).1, (r 122 _ (by omega) (by omega)).trans (s2 w hw).2.1, (r 122 _ (by omega) (by omega)).trans (s2 w hw).2.2⟩⟩, (ri_eq (e0 15 (by omega))).trans a3, fun g hg j hj => (r 120 _ (by omega) (by omega)).trans (a4 g hg j hj), fun c hc => (r 124 _ (by omega) (by omega)).trans (a5 c hc)⟩
theorem zRq_e (e1 : ∀ i, cw_at h' 130 i = cw_at h 130 i) (e2 : ∀ i, cw_at h' 135 i = cw_at h 135 i) (e3 : ∀ i, cw_at h' 148 i = cw_at h 148 i) (e0 : ∀ i, i = 43 ∨ i = 50 ∨ i = 66 ∨ i = 67 → cw_at h' 111 i = cw_at h 111 i) (a : zRq h ng q) : zRq h' ng q := by
  obtain ⟨a1, a2, ⟨u1, u2, u3⟩, a4⟩ := a
  refine ⟨fun g hg j hj => (ri_eq (e1 _)).trans (a1 g hg j hj), (ri_eq (e0 43 (by omega))).trans a2, ⟨(ri_eq (e0 50 (by omega))).trans u1, u2, fun i hi => ⟨(ri_eq (e2 _)).trans (u3 i hi).1, fun j hj => (ri_eq (e2 _)).trans ((u3 i hi).2 j hj)⟩⟩, ?_⟩
  rcases a4 with ⟨c1, c2⟩ | ⟨c1, c2, c3, c4⟩
  · exact .inl ⟨c1, (ri_eq (e0 66 (by omega))).trans c2⟩
  · exact .inr ⟨c1, (ri_eq (e0 66 (by omega))).trans c2, (ri_eq (e0 67 (by omega))).trans c3, fun g hg j hj => (ri_eq (e3 _)).trans (c4 g hg j hj)⟩
theorem zGo_g (a : zGo p q) : zng p ≤ 4 ∧ znw p ≤ 6 ∧ znc p ≤ 6 := a.1.1.1.2
/-- the other side's cells are left alone -/
theorem zCE_r (e : ∀ k i, k < 111 → cw_at h' k i = cw_at h k i) (hng : zng p ≤ 4) (a : zCE h p q) : zCE h' p q := by
  obtain ⟨⟨r1, r2, r3, r4, r5⟩, b, b1, b2⟩ := a
  have hb := b1.1
  have cF : ec_TF.all (fun t => Nat.ble (t.1 + 1) 111) = true := by decide
  have cR : ec_TR.all (fun t => Nat.ble (t.1 + 1) 111) = true := by decide
  refine ⟨⟨ef_fok_e (fun t ht => e _ _ (by have := List.all_eq_true.mp cF t ht; rw [Nat.ble_eq] at this; omega)) r1, ef_rok_e (fun t ht i => e _ _ (by have := List.all_eq_true.mp cR t ht; rw [Nat.ble_eq] at this; omega)) r2, fun g hg => ⟨(e _ _ (by decide)).trans (r3 g hg).1, (e _ _ (by decide)).trans (r3 g hg).2⟩, ⟨fun i hi => (e _ _ (by decide)).trans (r4.1 i hi), fun i hi => (e _ _ (by decide)).trans (r4.2 i hi)⟩, ⟨fun i hi => (e _ _ (by decide)).trans (r5.1 i hi), fun i hi => (e _ _ (by decide)).trans (r5.2 i hi)⟩⟩, b, zCp_e (fun i _ => e 0 i (by decide)) (fun k i u v => e k i (by omega)) hng b1, zCd_e (fun i _ => e 0 i (by decide)) (fun k i u v => e k i (by omega)) (fun k i u v => e k i (by omega)) hng b2⟩
theorem zRQ_c (e : ∀ k i, 111 ≤ k → k < 149 → cw_at h' k i = cw_at h k i) (a : zRQ h p q) : zRQ h' p q := ⟨zRp_e (fun k i u v => e k i (by omega) (by omega)) (fun i _ => e 111 i (by decide) (by decide)) a.1, zRq_e (fun i => e 130 i (by decide) (by decide)) (fun i => e 135 i (by decide) (by decide)) (fun i => e 148 i (by decide) (by decide)) (fun i _ => e 111 i (by decide) (by decide)) a.2⟩
theorem zST_e (e : ∀ k i, k < 149 → cw_at h' k i = cw_at h k i) (a : zST h) : zST h' := by
  obtain ⟨n, p, q, a1, a2, a3⟩ := a
  exact ⟨⟨(ri_eq (e 86 9 (by decide))).trans (n.1.trans (ri_eq (e 111 52 (by decide))).symm), (ri_eq (e 86 10 (by decide))).trans (n.2.trans (ri_eq (e 111 53 (by decide))).symm)⟩, p, q, a1, zCE_r (fun k i u => e k i (by omega)) (zGo_g a1).1 a2, zRQ_c (fun k i _ u => e k i u) a3⟩
end FR
/-- frames by masks: what is not of a side's kinds -/
theorem sh_c {k : Nat} (h : k < 111) : ∃ d, cw_sh[k]? = some d ∧ (d ≤ 11 ∨ 13 ≤ d ∧ d ≤ 50) := by
  have c : ∀ i : Fin 111, (match cw_sh[i.1]? with | some d => Nat.ble d 11 || (Nat.ble 13 d && Nat.ble d 50) | none => false) = true := by decide +kernel
  have q := c ⟨k, h⟩
  dsimp only at q
  split at q
  · rename_i d hd
    simp only [Bool.or_eq_true, Bool.and_eq_true, Nat.ble_eq] at q
    exact ⟨d, hd, q⟩
  · cases q
theorem sh_r {k : Nat} (h : 111 ≤ k) (h2 : k < 149) : ∃ d, cw_sh[k]? = some d ∧ (d = 12 ∨ 51 ≤ d ∧ d ≤ 87) := by
  have c : ∀ i : Fin 38, (match cw_sh[111 + i.1]? with | some d => d == 12 || (Nat.ble 51 d && Nat.ble d 87) | none => false) = true := by decide +kernel
  have q := c ⟨k - 111, by omega⟩
  dsimp only at q
  rw [show 111 + (k - 111) = k from by omega] at q
  split at q
  · rename_i d hd
    simp only [Bool.or_eq_true, Bool.and_eq_true, Nat.ble_eq, beq_iff_eq] at q
    exact ⟨d, hd, q⟩
  · cases q
end
