/-! ===== text: the class ===== -/
theorem tz_sk5 {t : Nat → Int} {n a : Nat} (h : (tz_s t n a).1 = 5) : 0 ≤ (tz_s t n a).2.1 ∧ (tz_s t n a).2.1 ≤ 5 := by
  revert h
  unfold tz_s
  (repeat' split) <;> intro h <;> first | (exfalso; simp at h; done) | (refine ⟨?_, ?_⟩ <;> dsimp only <;> omega)
theorem zk5 {t : Nat → Int} {n p : Nat} (h : zk t n p = 5) : 0 ≤ zw t n p ∧ zw t n p ≤ 5 := by
  unfold zk zw tz_T at *
  revert h
  unfold tz_tk
  (repeat' split) <;> intro h <;> first | exact tz_sk5 h | (exfalso; simp at h; done)
theorem sh_4 {k : Nat} (h : cw_sh[k]? = some 4) : k = 2 ∨ k = 26 := by
  have hlt := (List.getElem?_eq_some_iff.mp h).1
  have c : (List.range cw_sh.length).all (fun j => !(cw_sh[j]? == some 4) || (j == 2 || j == 26)) = true := by decide +kernel
  have := List.all_eq_true.mp c k (List.mem_range.mpr hlt)
  rw [h] at this
  simpa using this
theorem zTc_fr {m : Nat} {S : (Int × Nat) ⊕ (zSg × Int)} {x : Int32} {h h' : cv_H} (C : cw_Fr cw_Ds cw_sh m h h') (q : (!cw_bit m 5 4 && !cw_bit m 5 5) = true) (hz : zTc S x h) : zTc S x h' := by
  rw [Bool.and_eq_true] at q
  have e4 : ri_at h' 50 4 = ri_at h 50 4 := ri_frf C (k := 50) (d := 5) rfl rfl (by simpa using q.1)
  have e5 : ri_at h' 50 5 = ri_at h 50 5 := ri_frf C (k := 50) (d := 5) rfl rfl (by simpa using q.2)
  rcases S with ⟨f, a⟩ | ⟨s, k⟩
  · exact ⟨hz.1, e4.trans hz.2.1, e5.trans hz.2.2⟩
  · exact ⟨hz.1, e4.trans hz.2.1, e5.trans hz.2.2⟩
section TZ
variable {G : Int} {X : cv_X} {Q : cv_O → Prop} {t : Nat → Int}
set_option maxHeartbeats 8000000 in
theorem ct_text {h0 : cv_H} (hX : cw_Xok X) (hT : cw_T G h0) (hP : cw_PP G h0) (n : Int32) (ht : ∀ i, t i = ri_at h0 1 i % 256) (hwd : ∀ i, i < 34 → ri_at h0 52 i = tz_wc.getD i 0) (hpm2 : zPM 2 h0) (hpm26 : zPM 26 h0) (hQ : ∀ (x : Int32) h', cw_T G h' → cw_PP G h' → cw_Fr cw_Ds cw_sh kk_X11_text.2.2.2.2.2.1 h0 h' → ((n.toInt < 0 ∨ ri_at h0 0 1 < n.toInt) ∧ x.toInt = -2 ∧ h' = h0 ∨ (0 ≤ n.toInt ∧ n.toInt ≤ ri_at h0 0 1) ∧ x.toInt = x.toInt ∧ ri_at h' 0 1 = 0 ∧ zTc (ztx t n.toInt.toNat 901 0 (0, (fun _ => 0), 0, [], [], []) 0) x h') → Q (some (cv_i x), h')) : cw_X X 109 Q 0 (cv_ent 0 [cv_r 0, cv_i n]) [] h0 := by
  have Fh0 : cw_Fr cw_Ds cw_sh kk_X11_text.2.2.2.2.2.1 h0 h0 := cw_Fr_refl
  refine ex_il oq_X11_text_0 rfl ?_
  refine ex_if0 oq_X11_text_1 (t := 12) rfl rfl (fun (c101 : n.toInt < 0) => ?_) (fun (c101 : ¬ (n.toInt < 0)) => ?_)
  · refine ex_bi oq_X11_text_12 (m := (-2)) (by decide) (fun x102 hx102 => ?_)
    exact ex_reti oq_X11_text_14 rfl (hQ x102 h0 hT (pp_fr0 (by decide +kernel) hP Fh0) Fh0 (.inl ⟨by omega, by omega, rfl⟩))
  · refine ex_il oq_X11_text_4 rfl ?_
    refine ex_al oq_X11_text_5 rfl ?_
    obtain ⟨x103, ax103, rx103, lx103, ux103⟩ := ri_fld (k := 0) (d := 11) (f := 1) hT rfl rfl rfl
    try dsimp only at lx103 ux103
    refine ex_gf oq_X11_text_6 hT (k := 0) (d := 11) rfl rfl ax103 ?_
    refine ex_if oq_X11_text_9 (t := 15) rfl rfl (fun (c104 : n.toInt ≤ x103.toInt) => ?_) (fun (c104 : ¬ (n.toInt ≤ x103.toInt)) => ?_)
    · refine ex_al oq_X11_text_15 rfl ?_
      refine ex_ic oq_X11_text_16 (m := 0) (by decide) (fun x105 hx105 => ?_)
      refine ex_pfi oq_X11_text_17 hT (k := 0) (d := 11) rfl rfl rfl (by omega) (by omega) (fun h106 Th106 wh106 => ?_)
      have Fh106 : cw_Fr cw_Ds cw_sh kk_X11_text.2.2.2.2.2.1 h0 h106 := cw_Fr_tr Fh0 (cw_Fr_wrf wh106 (k := 0) (d := 11) rfl rfl (by decide +kernel))
      have eh106_0_1 : ri_at h106 0 1 = x105.toInt := ri_self wh106
      refine ex_al oq_X11_text_20 rfl ?_
      refine ex_gf oq_X11_text_21 Th106 (k := 0) (d := 11) rfl rfl (ri_ref (k := 0) (k' := 50) (d := 11) (f := 4) Th106 rfl rfl rfl (by decide) (ri_uniq (by decide +kernel))) ?_
      refine ex_al oq_X11_text_24 rfl ?_
      obtain ⟨k107, ak107, sk107⟩ := ri_refs (k := 0) (d := 11) (f := 3) Th106 rfl rfl rfl (by decide)
      refine ex_gf oq_X11_text_25 Th106 (k := 0) (d := 11) rfl rfl ak107 ?_
      refine ex_il oq_X11_text_28 rfl ?_
      have hA : ∀ i, ri_at h106 1 i = ri_at h0 1 i := fun i => (ri_ne wh106 (.inl (by decide)))
      have hB : ∀ i, ri_at h106 52 i = ri_at h0 52 i := fun i => (ri_ne wh106 (.inl (by decide)))
      have hpm : zPM k107 h106 := by rcases sh_4 sk107 with e | e <;> subst e; exact zPM_fr (.inl rfl) Fh106 (by decide +kernel) hpm2; exact zPM_fr (.inr rfl) Fh106 (by decide +kernel) hpm26
      refine ex_cv oq_X11_text_29 (by decide) Th106 (k := 50) (d := 5) (as := [cv_r k107, cv_i n]) (stk := []) rfl rfl rfl rfl rfl rfl ⟨rfl, rfl⟩ (R := fun o => ∃ (x : Int32) (hb : cv_H), o = (some (cv_i x), hb) ∧ cw_T G hb ∧ cw_Fr cw_Ds cw_sh kk_X5_readText.2.2.2.2.2.1 h106 hb ∧ zTc (ztx t n.toInt.toNat 901 0 (0, (fun _ => 0), 0, [], [], []) 0) x hb) (ct_readText (t := t) (n := n.toInt.toNat) (fun i => by rw [ht, ← hA]) (fun i hi => by rw [hB]; exact hwd i hi) (by omega) Th106 (sh_4 sk107) hpm (N := n) (by omega) (fun x hb b1 b2 b3 => ⟨x, hb, rfl, b1, b2, b3⟩)) (fun o ho => ?_)
      obtain ⟨x108, h109, rfl, Th109, Ch109, ex108⟩ := ho
      show cw_X _ _ _ _ _ [cv_i x108] h109
      have Fh109 : cw_Fr cw_Ds cw_sh kk_X11_text.2.2.2.2.2.1 h0 h109 := cw_Fr_tr Fh106 (cw_Fr_mono (by decide +kernel) Ch109)
      have eh109_0_1 : ri_at h109 0 1 = x105.toInt := (ri_frf Ch109 (k := 0) (d := 11) rfl rfl (by decide +kernel)).trans eh106_0_1
      clear eh106_0_1
      refine ex_isA oq_X11_text_32 (fun L110 gL110_2 kL110 => ?_)
      have gL110_0 : cv_get L110 0 = some (cv_r 0) := kL110 0 _ (by decide) (fun q => absurd q (by decide)) rfl
      have gL110_1 : cv_get L110 1 = some (cv_i n) := kL110 1 _ (by decide) (fun _ => rfl) rfl
      refine ex_il oq_X11_text_33 gL110_2 ?_
      refine ex_ic oq_X11_text_34 (m := (-1)) (by decide) (fun x111 hx111 => ?_)
      refine ex_if oq_X11_text_35 (t := 42) rfl rfl (fun (c112 : x108.toInt = x111.toInt) => ?_) (fun (c112 : ¬ (x108.toInt = x111.toInt)) => ?_)
      · refine ex_il oq_X11_text_42 gL110_2 ?_
        exact ex_reti oq_X11_text_43 rfl (hQ x108 h109 Th109 (pp_fr0 (by decide +kernel) hP Fh109) Fh109 (.inr ⟨by omega, by omega, by omega, ex108⟩))
      · refine ex_al oq_X11_text_38 gL110_0 ?_
        have Ph109 : cw_PP G h109 := pp_fr0 (by decide +kernel) hP Fh109
        refine ex_cv oq_X11_text_39 (by decide) Th109 (k := 0) (d := 11) (as := []) (stk := []) rfl rfl rfl rfl rfl rfl ⟨rfl, rfl⟩ (cw_HX hz_X11_takeSpare rfl (cw_Xok_no2 hX) ⟨Th109, Ph109⟩ ⟨.inl ⟨by decide, 0, rfl, rfl⟩, trivial⟩ (fun t ht => absurd ht List.not_mem_nil)) (fun ox114 hox114 => ?_)
        obtain ⟨h113, rfl, Th113, Ph113, Ch113⟩ := po_non hox114 rfl
        show cw_X _ _ _ _ _ [] h113
        have Fh113 : cw_Fr cw_Ds cw_sh kk_X11_text.2.2.2.2.2.1 h0 h113 := cw_Fr_tr Fh109 (cw_Fr_mono (by decide +kernel) Ch113)
        have eh113_0_1 : ri_at h113 0 1 = x105.toInt := (ri_frf Ch113 (k := 0) (d := 11) rfl rfl (by decide +kernel)).trans eh109_0_1
        clear eh109_0_1
        have ex108b := zTc_fr Ch113 (by decide +kernel) ex108
        refine ex_il oq_X11_text_42 gL110_2 ?_
        exact ex_reti oq_X11_text_43 rfl (hQ x108 h113 Th113 (pp_fr0 (by decide +kernel) hP Fh113) Fh113 (.inr ⟨by omega, by omega, by omega, ex108b⟩))
    · refine ex_bi oq_X11_text_12 (m := (-2)) (by decide) (fun x115 hx115 => ?_)
      exact ex_reti oq_X11_text_14 rfl (hQ x115 h0 hT (pp_fr0 (by decide +kernel) hP Fh0) Fh0 (.inl ⟨by omega, by omega, rfl⟩))
end TZ
