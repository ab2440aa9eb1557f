/-! ===== what is kept stays, while others are read: the reference ===== -/
def zhf (k : Nat) : Nat := if 114 ≤ k ∧ k ≤ 127 then ([12, 4, 4, 4, 4, 64, 36, 6, 18, 6, 18, 64, 64, 64] : List Nat).getD (k - 114) 0 else 0
/-- the lower halves of the reference's rows -/
def zFK (h h' : cv_H) : Prop := ∀ k i, i < zhf k → ri_at h' k i = ri_at h k i
theorem zFK_0 {h : cv_H} : zFK h h := fun _ _ _ => rfl
theorem zFK_tr {h h' h'' : cv_H} (a : zFK h h') (b : zFK h' h'') : zFK h h'' := fun k i hi => (b k i hi).trans (a k i hi)
theorem zFK_wr {k j : Nat} {v : cv_V} {h h' h'' : cv_H} (w : cw_Wr h' h'' k j v) (q : zhf k ≤ j) (a : zFK h h') : zFK h h'' := by
  intro k' i hi
  refine (ri_ne w ?_).trans (a k' i hi)
  by_cases e : k' = k
  · subst e; exact .inr (by omega)
  · exact .inl e
theorem zFK_fr {m : Nat} {h h' h'' : cv_H} (C : cw_Fr cw_Ds cw_sh m h' h'') (q : ((List.range 14).all (fun j => (List.range 17).all (fun s => !cw_bit m (53 + j) s))) = true) (a : zFK h h') : zFK h h'' := by
  have q2 : ∀ j, j < 14 → ∀ s, s < 17 → cw_bit m (53 + j) s = false := fun j hj s hs => by
    have := List.all_eq_true.mp (List.all_eq_true.mp q j (List.mem_range.mpr hj)) s (List.mem_range.mpr hs)
    simpa using this
  intro k i hi
  have hk : 114 ≤ k ∧ k ≤ 127 := by
    by_cases e : 114 ≤ k ∧ k ≤ 127
    · exact e
    · unfold zhf at hi; rw [if_neg e] at hi; exact absurd hi (Nat.not_lt_zero i)
  have : k = 114 ∨ k = 115 ∨ k = 116 ∨ k = 117 ∨ k = 118 ∨ k = 119 ∨ k = 120 ∨ k = 121 ∨ k = 122 ∨ k = 123 ∨ k = 124 ∨ k = 125 ∨ k = 126 ∨ k = 127 := by omega
  rcases this with rfl | rfl | rfl | rfl | rfl | rfl | rfl | rfl | rfl | rfl | rfl | rfl | rfl | rfl
  · exact (ri_frq C (k := 114) (d := 53) rfl rfl (by decide) (List.all_eq_true.mpr (fun s hs => by
      show (!cw_bit m (53 + 0) s) = true
      rw [q2 0 (by decide) s (by have := List.mem_range.mp hs; omega)]
      rfl))).trans (a _ i hi)
  · exact (ri_frq C (k := 115) (d := 54) rfl rfl (by decide) (List.all_eq_true.mpr (fun s hs => by
      show (!cw_bit m (53 + 1) s) = true
      rw [q2 1 (by decide) s (by have := List.mem_range.mp hs; omega)]
      rfl))).trans (a _ i hi)
  · exact (ri_frq C (k := 116) (d := 55) rfl rfl (by decide) (List.all_eq_true.mpr (fun s hs => by
      show (!cw_bit m (53 + 2) s) = true
      rw [q2 2 (by decide) s (by have := List.mem_range.mp hs; omega)]
      rfl))).trans (a _ i hi)
  · exact (ri_frq C (k := 117) (d := 56) rfl rfl (by decide) (List.all_eq_true.mpr (fun s hs => by
      show (!cw_bit m (53 + 3) s) = true
      rw [q2 3 (by decide) s (by have := List.mem_range.mp hs; omega)]
      rfl))).trans (a _ i hi)
  · exact (ri_frq C (k := 118) (d := 57) rfl rfl (by decide) (List.all_eq_true.mpr (fun s hs => by
      show (!cw_bit m (53 + 4) s) = true
      rw [q2 4 (by decide) s (by have := List.mem_range.mp hs; omega)]
      rfl))).trans (a _ i hi)
  · exact (ri_frq C (k := 119) (d := 58) rfl rfl (by decide) (List.all_eq_true.mpr (fun s hs => by
      show (!cw_bit m (53 + 5) s) = true
      rw [q2 5 (by decide) s (by have := List.mem_range.mp hs; omega)]
      rfl))).trans (a _ i hi)
  · exact (ri_frq C (k := 120) (d := 59) rfl rfl (by decide) (List.all_eq_true.mpr (fun s hs => by
      show (!cw_bit m (53 + 6) s) = true
      rw [q2 6 (by decide) s (by have := List.mem_range.mp hs; omega)]
      rfl))).trans (a _ i hi)
  · exact (ri_frq C (k := 121) (d := 60) rfl rfl (by decide) (List.all_eq_true.mpr (fun s hs => by
      show (!cw_bit m (53 + 7) s) = true
      rw [q2 7 (by decide) s (by have := List.mem_range.mp hs; omega)]
      rfl))).trans (a _ i hi)
  · exact (ri_frq C (k := 122) (d := 61) rfl rfl (by decide) (List.all_eq_true.mpr (fun s hs => by
      show (!cw_bit m (53 + 8) s) = true
      rw [q2 8 (by decide) s (by have := List.mem_range.mp hs; omega)]
      rfl))).trans (a _ i hi)
  · exact (ri_frq C (k := 123) (d := 62) rfl rfl (by decide) (List.all_eq_true.mpr (fun s hs => by
      show (!cw_bit m (53 + 9) s) = true
      rw [q2 9 (by decide) s (by have := List.mem_range.mp hs; omega)]
      rfl))).trans (a _ i hi)
  · exact (ri_frq C (k := 124) (d := 63) rfl rfl (by decide) (List.all_eq_true.mpr (fun s hs => by
      show (!cw_bit m (53 + 10) s) = true
      rw [q2 10 (by decide) s (by have := List.mem_range.mp hs; omega)]
      rfl))).trans (a _ i hi)
  · exact (ri_frq C (k := 125) (d := 64) rfl rfl (by decide) (List.all_eq_true.mpr (fun s hs => by
      show (!cw_bit m (53 + 11) s) = true
      rw [q2 11 (by decide) s (by have := List.mem_range.mp hs; omega)]
      rfl))).trans (a _ i hi)
  · exact (ri_frq C (k := 126) (d := 65) rfl rfl (by decide) (List.all_eq_true.mpr (fun s hs => by
      show (!cw_bit m (53 + 12) s) = true
      rw [q2 12 (by decide) s (by have := List.mem_range.mp hs; omega)]
      rfl))).trans (a _ i hi)
  · exact (ri_frq C (k := 127) (d := 66) rfl rfl (by decide) (List.all_eq_true.mpr (fun s hs => by
      show (!cw_bit m (53 + 13) s) = true
      rw [q2 13 (by decide) s (by have := List.mem_range.mp hs; omega)]
      rfl))).trans (a _ i hi)
section TZ
variable {G : Int} {X : cv_X} {Q : cv_O → Prop} {t : Nat → Int}
theorem rt_newNameGK {h0 : cv_H} {n p : Nat} (ht : ∀ i, i < n → t i = ri_at h0 112 i) (hn9 : n ≤ 900) (hT : cw_T G h0) (hwr : ∀ i, i < 177 → ri_at h0 113 i = pp_words.getD i 0) (hpn : p ≤ n) (hz : zR t n p h0) {F M : Int32} {l : List Int} (hF : F.toInt = 4) (hM : M.toInt = l.length) (hlm : l.length < 4) (hl : ∀ k, k < l.length → ri_at h0 118 (4 + k) = l.getD k 0) (hQ : ∀ (x : Int32) h', cw_T G h' → cw_Fr cw_Ds cw_sh kk_X12_newName.2.2.2.2.2.1 h0 h' → zFK h0 h' → zRe t n h0 h' x (zm t n l p) (fun v => (∀ k, k < l.length → ri_at h' 118 (4 + k) = l.getD k 0) ∧ ri_at h' 118 (4 + l.length) = v) → Q (some (cv_i x), h')) : cw_X X 175 Q 0 (cv_ent 0 [cv_r 111, cv_r 118, cv_i F, cv_i M]) [] h0 := by
  have Fh0 : cw_Fr cw_Ds cw_sh kk_X12_newName.2.2.2.2.2.1 h0 h0 := cw_Fr_refl
  have Kh0 : zFK h0 h0 := zFK_0
  have zxl := zx_le (t := t) hpn
  obtain ⟨z1, z2, z3, z4, z5⟩ := id hz
  have hA : ∀ h, cw_Fr cw_Ds cw_sh kk_X12_newName.2.2.2.2.2.1 h0 h → ∀ i, ri_at h 112 i = ri_at h0 112 i := fun h F i => ri_frr F (k := 112) (d := 51) rfl rfl (by decide +kernel)
  have hB : ∀ h, cw_Fr cw_Ds cw_sh kk_X12_newName.2.2.2.2.2.1 h0 h → ∀ i, ri_at h 113 i = ri_at h0 113 i := fun h F i => ri_frr F (k := 113) (d := 52) rfl rfl (by decide +kernel)
  refine ex_al oq_X12_newName_0 rfl ?_
  obtain ⟨x401, ax401, rx401, lx401, ux401⟩ := fi_kind hT
  refine ex_gf oq_X12_newName_1 hT (k := 111) (d := 12) rfl rfl ax401 ?_
  refine ex_ic oq_X12_newName_4 (m := 2) (by decide) (fun x402 hx402 => ?_)
  refine ex_if oq_X12_newName_5 (t := 14) rfl rfl (fun (c403 : x401.toInt = x402.toInt) => ?_) (fun (c403 : ¬ (x401.toInt = x402.toInt)) => ?_)
  · refine ex_al oq_X12_newName_14 rfl ?_
    refine ex_il oq_X12_newName_15 rfl ?_
    refine ex_il oq_X12_newName_16 rfl ?_
    refine ex_al oq_X12_newName_17 rfl ?_
    obtain ⟨x404, ax404, rx404, lx404, ux404⟩ := fi_which hT
    refine ex_gf oq_X12_newName_18 hT (k := 111) (d := 12) rfl rfl ax404 ?_
    refine ex_cs oq_X12_newName_21 (by decide) (as := [cv_r 118, cv_i F, cv_i M, cv_i x404]) (stk := []) rfl rfl rfl ⟨rfl, rfl⟩ (R := fun o => ∃ x : Int32, o = (some (cv_i x), h0) ∧ x.toInt = tz_find l x404.toInt 0) (rt_findG (f := 4) (l := l) hT (by omega) (by omega) (by omega) (fun k hk => hl k hk) (fun x q => ⟨x, rfl, q⟩)) (fun o ho => ?_)
    obtain ⟨x405, rfl, qx405⟩ := ho
    show cw_X _ _ _ _ _ [cv_i x405] h0
    rw [show x404.toInt = zw t n p from by omega] at qx405
    refine ex_if0 oq_X12_newName_24 (t := 33) rfl rfl (fun (c406 : x405.toInt < 0) => ?_) (fun (c406 : ¬ (x405.toInt < 0)) => ?_)
    · refine ex_al oq_X12_newName_33 rfl ?_
      refine ex_il oq_X12_newName_34 rfl ?_
      refine ex_il oq_X12_newName_35 rfl ?_
      refine ex_add oq_X12_newName_36 (by omega) (fun x407 hx407 => ?_)
      refine ex_al oq_X12_newName_37 rfl ?_
      obtain ⟨x408, ax408, rx408, lx408, ux408⟩ := fi_which hT
      refine ex_gf oq_X12_newName_38 hT (k := 111) (d := 12) rfl rfl ax408 ?_
      refine ex_iw1 oq_X12_newName_41 hT (k := 118) (d := 57) (j := 4 + l.length) rfl rfl (by omega) (by omega) ⟨(cw_i32 _).1, (cw_i32 _).2⟩ (fun h409 Th409 wh409 => ?_)
      have Fh409 : cw_Fr cw_Ds cw_sh kk_X12_newName.2.2.2.2.2.1 h0 h409 := cw_Fr_tr Fh0 (cw_Fr_wrr wh409 (k := 118) (d := 57) rfl rfl (by decide +kernel))
      have Kh409 := zFK_wr (k := 118) wh409 ((by show 4 ≤ _; omega)) Kh0
      have eh409_4 : ri_at h409 111 4 = ri_at h0 111 4 := ri_ne wh409 (.inl (by decide))
      have eh409_5 : ri_at h409 111 5 = ri_at h0 111 5 := ri_ne wh409 (.inl (by decide))
      have eh409_6 : ri_at h409 111 6 = ri_at h0 111 6 := ri_ne wh409 (.inl (by decide))
      have eh409_7 : ri_at h409 111 7 = ri_at h0 111 7 := ri_ne wh409 (.inl (by decide))
      have eh409_8 : ri_at h409 111 8 = ri_at h0 111 8 := ri_ne wh409 (.inl (by decide))
      have eh409_9 : ri_at h409 111 9 = ri_at h0 111 9 := ri_ne wh409 (.inl (by decide))
      have eh409_10 : ri_at h409 111 10 = ri_at h0 111 10 := ri_ne wh409 (.inl (by decide))
      have eh409_11 : ri_at h409 111 11 = ri_at h0 111 11 := ri_ne wh409 (.inl (by decide))
      refine ex_al oq_X12_newName_42 rfl ?_
      refine ex_cv oq_X12_newName_43 (by decide) Th409 (k := 111) (d := 12) (as := []) (stk := []) rfl rfl rfl rfl rfl rfl ⟨rfl, rfl⟩ (R := fun o => ∃ hb : cv_H, o = (none, hb) ∧ cw_T G hb ∧ cw_Fr cw_Ds cw_sh kk_X12_token.2.2.2.2.2.1 h409 hb ∧ zR t n (zx t n p) hb) (rt_tok (t := t) (n := n) (p := zx t n p) (fun i hi => by rw [ht i hi, ← hA _ Fh409]) hn9 (fun i hi => by rw [hB _ Fh409]; exact hwr i hi) Th409 (zx_le (by omega)) (by omega) (by omega) (fun hb b1 b2 b3 => ⟨hb, rfl, b1, b2, b3⟩)) (fun o ho => ?_)
      obtain ⟨h410, rfl, Th410, Ch410, Zh410⟩ := ho
      show cw_X _ _ _ _ _ [] h410
      have Fh410 : cw_Fr cw_Ds cw_sh kk_X12_newName.2.2.2.2.2.1 h0 h410 := cw_Fr_tr Fh409 (cw_Fr_mono (by decide +kernel) Ch410)
      have Kh410 := zFK_fr Ch410 (by decide +kernel) Kh409
      have eh410_4 : ri_at h410 111 4 = ri_at h409 111 4 := ri_frf Ch410 (d := 12) rfl rfl (by decide +kernel)
      have eh410_5 : ri_at h410 111 5 = ri_at h409 111 5 := ri_frf Ch410 (d := 12) rfl rfl (by decide +kernel)
      have eh410_11 : ri_at h410 111 11 = ri_at h409 111 11 := ri_frf Ch410 (d := 12) rfl rfl (by decide +kernel)
      refine ex_ic oq_X12_newName_46 (m := 1) (by decide) (fun x411 hx411 => ?_)
      have hr : ∀ i, ri_at h410 118 i = ri_at h409 118 i := fun i => ri_frr Ch410 (k := 118) (d := 57) rfl rfl (by decide +kernel)
      exact ex_retb oq_X12_newName_47 rfl (by omega) (by omega) (hQ x411 h410 Th410 Fh410 Kh410 (.inl ⟨_, _, zm_ok (by omega) (by omega), zx_le (by omega), by omega, Zh410, by omega, by omega, fun k hk => by rw [hr, ri_ne wh409 (.inr (by omega))]; exact hl k hk, by rw [hr, ri_self wh409]; omega⟩))
    · refine ex_al oq_X12_newName_27 rfl ?_
      refine ex_ic oq_X12_newName_28 (m := 3) (by decide) (fun x412 hx412 => ?_)
      refine ex_cv oq_X12_newName_29 (by decide) hT (k := 111) (d := 12) (as := [cv_i x412]) (stk := []) rfl rfl rfl rfl rfl rfl ⟨rfl, rfl⟩ (R := fun o => ∃ (x : Int32) (hb : cv_H), o = (some (cv_i x), hb) ∧ cw_T G hb ∧ cw_Fr cw_Ds cw_sh kk_X12_wrong.2.2.2.2.2.1 h0 hb ∧ x.toInt = 0 ∧ ri_at hb 111 4 = x412.toInt ∧ ri_at hb 111 5 = ri_at h0 111 10) (rt_wrong hT x412 (fun x hb b1 b2 b3 b4 b5 => ⟨x, hb, rfl, b1, b2, b3, b4, b5⟩)) (fun o ho => ?_)
      obtain ⟨x413, h414, rfl, Th414, Ch414, zh414, fh414, ph414⟩ := ho
      show cw_X _ _ _ _ _ [cv_i x413] h414
      have Fh414 : cw_Fr cw_Ds cw_sh kk_X12_newName.2.2.2.2.2.1 h0 h414 := cw_Fr_tr Fh0 (cw_Fr_mono (by decide +kernel) Ch414)
      have Kh414 := zFK_fr Ch414 (by decide +kernel) Kh0
      exact ex_retb oq_X12_newName_32 rfl (by omega) (by omega) (hQ x413 h414 Th414 Fh414 Kh414 (.inr ⟨_, _, zm_3 (by omega) (by omega), by omega, by omega, by omega, by decide⟩))
  · refine ex_al oq_X12_newName_8 rfl ?_
    refine ex_ic oq_X12_newName_9 (m := 1) (by decide) (fun x415 hx415 => ?_)
    refine ex_cv oq_X12_newName_10 (by decide) hT (k := 111) (d := 12) (as := [cv_i x415]) (stk := []) rfl rfl rfl rfl rfl rfl ⟨rfl, rfl⟩ (R := fun o => ∃ (x : Int32) (hb : cv_H), o = (some (cv_i x), hb) ∧ cw_T G hb ∧ cw_Fr cw_Ds cw_sh kk_X12_wrong.2.2.2.2.2.1 h0 hb ∧ x.toInt = 0 ∧ ri_at hb 111 4 = x415.toInt ∧ ri_at hb 111 5 = ri_at h0 111 10) (rt_wrong hT x415 (fun x hb b1 b2 b3 b4 b5 => ⟨x, hb, rfl, b1, b2, b3, b4, b5⟩)) (fun o ho => ?_)
    obtain ⟨x416, h417, rfl, Th417, Ch417, zh417, fh417, ph417⟩ := ho
    show cw_X _ _ _ _ _ [cv_i x416] h417
    have Fh417 : cw_Fr cw_Ds cw_sh kk_X12_newName.2.2.2.2.2.1 h0 h417 := cw_Fr_tr Fh0 (cw_Fr_mono (by decide +kernel) Ch417)
    have Kh417 := zFK_fr Ch417 (by decide +kernel) Kh0
    exact ex_retb oq_X12_newName_13 rfl (by omega) (by omega) (hQ x416 h417 Th417 Fh417 Kh417 (.inr ⟨_, _, zm_1 (by omega), by omega, by omega, by omega, by decide⟩))
theorem rt_newNameWK {h0 : cv_H} {n p : Nat} (ht : ∀ i, i < n → t i = ri_at h0 112 i) (hn9 : n ≤ 900) (hT : cw_T G h0) (hwr : ∀ i, i < 177 → ri_at h0 113 i = pp_words.getD i 0) (hpn : p ≤ n) (hz : zR t n p h0) {F M : Int32} {l : List Int} (hF : F.toInt = 6) (hM : M.toInt = l.length) (hlm : l.length < 6) (hl : ∀ k, k < l.length → ri_at h0 121 (6 + k) = l.getD k 0) (hQ : ∀ (x : Int32) h', cw_T G h' → cw_Fr cw_Ds cw_sh kk_X12_newName_1.2.2.2.2.2.1 h0 h' → zFK h0 h' → zRe t n h0 h' x (zm t n l p) (fun v => (∀ k, k < l.length → ri_at h' 121 (6 + k) = l.getD k 0) ∧ ri_at h' 121 (6 + l.length) = v) → Q (some (cv_i x), h')) : cw_X X 175 Q 0 (cv_ent 0 [cv_r 111, cv_r 121, cv_i F, cv_i M]) [] h0 := by
  have Fh0 : cw_Fr cw_Ds cw_sh kk_X12_newName_1.2.2.2.2.2.1 h0 h0 := cw_Fr_refl
  have Kh0 : zFK h0 h0 := zFK_0
  have zxl := zx_le (t := t) hpn
  obtain ⟨z1, z2, z3, z4, z5⟩ := id hz
  have hA : ∀ h, cw_Fr cw_Ds cw_sh kk_X12_newName_1.2.2.2.2.2.1 h0 h → ∀ i, ri_at h 112 i = ri_at h0 112 i := fun h F i => ri_frr F (k := 112) (d := 51) rfl rfl (by decide +kernel)
  have hB : ∀ h, cw_Fr cw_Ds cw_sh kk_X12_newName_1.2.2.2.2.2.1 h0 h → ∀ i, ri_at h 113 i = ri_at h0 113 i := fun h F i => ri_frr F (k := 113) (d := 52) rfl rfl (by decide +kernel)
  refine ex_al oq_X12_newName_0 rfl ?_
  obtain ⟨x401, ax401, rx401, lx401, ux401⟩ := fi_kind hT
  refine ex_gf oq_X12_newName_1 hT (k := 111) (d := 12) rfl rfl ax401 ?_
  refine ex_ic oq_X12_newName_4 (m := 2) (by decide) (fun x402 hx402 => ?_)
  refine ex_if oq_X12_newName_5 (t := 14) rfl rfl (fun (c403 : x401.toInt = x402.toInt) => ?_) (fun (c403 : ¬ (x401.toInt = x402.toInt)) => ?_)
  · refine ex_al oq_X12_newName_14 rfl ?_
    refine ex_il oq_X12_newName_15 rfl ?_
    refine ex_il oq_X12_newName_16 rfl ?_
    refine ex_al oq_X12_newName_17 rfl ?_
    obtain ⟨x404, ax404, rx404, lx404, ux404⟩ := fi_which hT
    refine ex_gf oq_X12_newName_18 hT (k := 111) (d := 12) rfl rfl ax404 ?_
    refine ex_cs oq_X12_newName_21 (by decide) (as := [cv_r 121, cv_i F, cv_i M, cv_i x404]) (stk := []) rfl rfl rfl ⟨rfl, rfl⟩ (R := fun o => ∃ x : Int32, o = (some (cv_i x), h0) ∧ x.toInt = tz_find l x404.toInt 0) (rt_findW (f := 6) (l := l) hT (by omega) (by omega) (by omega) (fun k hk => hl k hk) (fun x q => ⟨x, rfl, q⟩)) (fun o ho => ?_)
    obtain ⟨x405, rfl, qx405⟩ := ho
    show cw_X _ _ _ _ _ [cv_i x405] h0
    rw [show x404.toInt = zw t n p from by omega] at qx405
    refine ex_if0 oq_X12_newName_24 (t := 33) rfl rfl (fun (c406 : x405.toInt < 0) => ?_) (fun (c406 : ¬ (x405.toInt < 0)) => ?_)
    · refine ex_al oq_X12_newName_33 rfl ?_
      refine ex_il oq_X12_newName_34 rfl ?_
      refine ex_il oq_X12_newName_35 rfl ?_
      refine ex_add oq_X12_newName_36 (by omega) (fun x407 hx407 => ?_)
      refine ex_al oq_X12_newName_37 rfl ?_
      obtain ⟨x408, ax408, rx408, lx408, ux408⟩ := fi_which hT
      refine ex_gf oq_X12_newName_38 hT (k := 111) (d := 12) rfl rfl ax408 ?_
      refine ex_iw1 oq_X12_newName_41 hT (k := 121) (d := 60) (j := 6 + l.length) rfl rfl (by omega) (by omega) ⟨(cw_i32 _).1, (cw_i32 _).2⟩ (fun h409 Th409 wh409 => ?_)
      have Fh409 : cw_Fr cw_Ds cw_sh kk_X12_newName_1.2.2.2.2.2.1 h0 h409 := cw_Fr_tr Fh0 (cw_Fr_wrr wh409 (k := 121) (d := 60) rfl rfl (by decide +kernel))
      have Kh409 := zFK_wr (k := 121) wh409 ((by show 6 ≤ _; omega)) Kh0
      have eh409_4 : ri_at h409 111 4 = ri_at h0 111 4 := ri_ne wh409 (.inl (by decide))
      have eh409_5 : ri_at h409 111 5 = ri_at h0 111 5 := ri_ne wh409 (.inl (by decide))
      have eh409_6 : ri_at h409 111 6 = ri_at h0 111 6 := ri_ne wh409 (.inl (by decide))
      have eh409_7 : ri_at h409 111 7 = ri_at h0 111 7 := ri_ne wh409 (.inl (by decide))
      have eh409_8 : ri_at h409 111 8 = ri_at h0 111 8 := ri_ne wh409 (.inl (by decide))
      have eh409_9 : ri_at h409 111 9 = ri_at h0 111 9 := ri_ne wh409 (.inl (by decide))
      have eh409_10 : ri_at h409 111 10 = ri_at h0 111 10 := ri_ne wh409 (.inl (by decide))
      have eh409_11 : ri_at h409 111 11 = ri_at h0 111 11 := ri_ne wh409 (.inl (by decide))
      refine ex_al oq_X12_newName_42 rfl ?_
      refine ex_cv oq_X12_newName_43 (by decide) Th409 (k := 111) (d := 12) (as := []) (stk := []) rfl rfl rfl rfl rfl rfl ⟨rfl, rfl⟩ (R := fun o => ∃ hb : cv_H, o = (none, hb) ∧ cw_T G hb ∧ cw_Fr cw_Ds cw_sh kk_X12_token.2.2.2.2.2.1 h409 hb ∧ zR t n (zx t n p) hb) (rt_tok (t := t) (n := n) (p := zx t n p) (fun i hi => by rw [ht i hi, ← hA _ Fh409]) hn9 (fun i hi => by rw [hB _ Fh409]; exact hwr i hi) Th409 (zx_le (by omega)) (by omega) (by omega) (fun hb b1 b2 b3 => ⟨hb, rfl, b1, b2, b3⟩)) (fun o ho => ?_)
      obtain ⟨h410, rfl, Th410, Ch410, Zh410⟩ := ho
      show cw_X _ _ _ _ _ [] h410
      have Fh410 : cw_Fr cw_Ds cw_sh kk_X12_newName_1.2.2.2.2.2.1 h0 h410 := cw_Fr_tr Fh409 (cw_Fr_mono (by decide +kernel) Ch410)
      have Kh410 := zFK_fr Ch410 (by decide +kernel) Kh409
      have eh410_4 : ri_at h410 111 4 = ri_at h409 111 4 := ri_frf Ch410 (d := 12) rfl rfl (by decide +kernel)
      have eh410_5 : ri_at h410 111 5 = ri_at h409 111 5 := ri_frf Ch410 (d := 12) rfl rfl (by decide +kernel)
      have eh410_11 : ri_at h410 111 11 = ri_at h409 111 11 := ri_frf Ch410 (d := 12) rfl rfl (by decide +kernel)
      refine ex_ic oq_X12_newName_46 (m := 1) (by decide) (fun x411 hx411 => ?_)
      have hr : ∀ i, ri_at h410 121 i = ri_at h409 121 i := fun i => ri_frr Ch410 (k := 121) (d := 60) rfl rfl (by decide +kernel)
      exact ex_retb oq_X12_newName_47 rfl (by omega) (by omega) (hQ x411 h410 Th410 Fh410 Kh410 (.inl ⟨_, _, zm_ok (by omega) (by omega), zx_le (by omega), by omega, Zh410, by omega, by omega, fun k hk => by rw [hr, ri_ne wh409 (.inr (by omega))]; exact hl k hk, by rw [hr, ri_self wh409]; omega⟩))
    · refine ex_al oq_X12_newName_27 rfl ?_
      refine ex_ic oq_X12_newName_28 (m := 3) (by decide) (fun x412 hx412 => ?_)
      refine ex_cv oq_X12_newName_29 (by decide) hT (k := 111) (d := 12) (as := [cv_i x412]) (stk := []) rfl rfl rfl rfl rfl rfl ⟨rfl, rfl⟩ (R := fun o => ∃ (x : Int32) (hb : cv_H), o = (some (cv_i x), hb) ∧ cw_T G hb ∧ cw_Fr cw_Ds cw_sh kk_X12_wrong.2.2.2.2.2.1 h0 hb ∧ x.toInt = 0 ∧ ri_at hb 111 4 = x412.toInt ∧ ri_at hb 111 5 = ri_at h0 111 10) (rt_wrong hT x412 (fun x hb b1 b2 b3 b4 b5 => ⟨x, hb, rfl, b1, b2, b3, b4, b5⟩)) (fun o ho => ?_)
      obtain ⟨x413, h414, rfl, Th414, Ch414, zh414, fh414, ph414⟩ := ho
      show cw_X _ _ _ _ _ [cv_i x413] h414
      have Fh414 : cw_Fr cw_Ds cw_sh kk_X12_newName_1.2.2.2.2.2.1 h0 h414 := cw_Fr_tr Fh0 (cw_Fr_mono (by decide +kernel) Ch414)
      have Kh414 := zFK_fr Ch414 (by decide +kernel) Kh0
      exact ex_retb oq_X12_newName_32 rfl (by omega) (by omega) (hQ x413 h414 Th414 Fh414 Kh414 (.inr ⟨_, _, zm_3 (by omega) (by omega), by omega, by omega, by omega, by decide⟩))
  · refine ex_al oq_X12_newName_8 rfl ?_
    refine ex_ic oq_X12_newName_9 (m := 1) (by decide) (fun x415 hx415 => ?_)
    refine ex_cv oq_X12_newName_10 (by decide) hT (k := 111) (d := 12) (as := [cv_i x415]) (stk := []) rfl rfl rfl rfl rfl rfl ⟨rfl, rfl⟩ (R := fun o => ∃ (x : Int32) (hb : cv_H), o = (some (cv_i x), hb) ∧ cw_T G hb ∧ cw_Fr cw_Ds cw_sh kk_X12_wrong.2.2.2.2.2.1 h0 hb ∧ x.toInt = 0 ∧ ri_at hb 111 4 = x415.toInt ∧ ri_at hb 111 5 = ri_at h0 111 10) (rt_wrong hT x415 (fun x hb b1 b2 b3 b4 b5 => ⟨x, hb, rfl, b1, b2, b3, b4, b5⟩)) (fun o ho => ?_)
    obtain ⟨x416, h417, rfl, Th417, Ch417, zh417, fh417, ph417⟩ := ho
    show cw_X _ _ _ _ _ [cv_i x416] h417
    have Fh417 : cw_Fr cw_Ds cw_sh kk_X12_newName_1.2.2.2.2.2.1 h0 h417 := cw_Fr_tr Fh0 (cw_Fr_mono (by decide +kernel) Ch417)
    have Kh417 := zFK_fr Ch417 (by decide +kernel) Kh0
    exact ex_retb oq_X12_newName_13 rfl (by omega) (by omega) (hQ x416 h417 Th417 Fh417 Kh417 (.inr ⟨_, _, zm_1 (by omega), by omega, by omega, by omega, by decide⟩))
theorem rt_newNameCK {h0 : cv_H} {n p : Nat} (ht : ∀ i, i < n → t i = ri_at h0 112 i) (hn9 : n ≤ 900) (hT : cw_T G h0) (hwr : ∀ i, i < 177 → ri_at h0 113 i = pp_words.getD i 0) (hpn : p ≤ n) (hz : zR t n p h0) {F M : Int32} {l : List Int} (hF : F.toInt = 6) (hM : M.toInt = l.length) (hlm : l.length < 6) (hl : ∀ k, k < l.length → ri_at h0 123 (6 + k) = l.getD k 0) (hQ : ∀ (x : Int32) h', cw_T G h' → cw_Fr cw_Ds cw_sh kk_X12_newName_2.2.2.2.2.2.1 h0 h' → zFK h0 h' → zRe t n h0 h' x (zm t n l p) (fun v => (∀ k, k < l.length → ri_at h' 123 (6 + k) = l.getD k 0) ∧ ri_at h' 123 (6 + l.length) = v) → Q (some (cv_i x), h')) : cw_X X 175 Q 0 (cv_ent 0 [cv_r 111, cv_r 123, cv_i F, cv_i M]) [] h0 := by
  have Fh0 : cw_Fr cw_Ds cw_sh kk_X12_newName_2.2.2.2.2.2.1 h0 h0 := cw_Fr_refl
  have Kh0 : zFK h0 h0 := zFK_0
  have zxl := zx_le (t := t) hpn
  obtain ⟨z1, z2, z3, z4, z5⟩ := id hz
  have hA : ∀ h, cw_Fr cw_Ds cw_sh kk_X12_newName_2.2.2.2.2.2.1 h0 h → ∀ i, ri_at h 112 i = ri_at h0 112 i := fun h F i => ri_frr F (k := 112) (d := 51) rfl rfl (by decide +kernel)
  have hB : ∀ h, cw_Fr cw_Ds cw_sh kk_X12_newName_2.2.2.2.2.2.1 h0 h → ∀ i, ri_at h 113 i = ri_at h0 113 i := fun h F i => ri_frr F (k := 113) (d := 52) rfl rfl (by decide +kernel)
  refine ex_al oq_X12_newName_0 rfl ?_
  obtain ⟨x401, ax401, rx401, lx401, ux401⟩ := fi_kind hT
  refine ex_gf oq_X12_newName_1 hT (k := 111) (d := 12) rfl rfl ax401 ?_
  refine ex_ic oq_X12_newName_4 (m := 2) (by decide) (fun x402 hx402 => ?_)
  refine ex_if oq_X12_newName_5 (t := 14) rfl rfl (fun (c403 : x401.toInt = x402.toInt) => ?_) (fun (c403 : ¬ (x401.toInt = x402.toInt)) => ?_)
  · refine ex_al oq_X12_newName_14 rfl ?_
    refine ex_il oq_X12_newName_15 rfl ?_
    refine ex_il oq_X12_newName_16 rfl ?_
    refine ex_al oq_X12_newName_17 rfl ?_
    obtain ⟨x404, ax404, rx404, lx404, ux404⟩ := fi_which hT
    refine ex_gf oq_X12_newName_18 hT (k := 111) (d := 12) rfl rfl ax404 ?_
    refine ex_cs oq_X12_newName_21 (by decide) (as := [cv_r 123, cv_i F, cv_i M, cv_i x404]) (stk := []) rfl rfl rfl ⟨rfl, rfl⟩ (R := fun o => ∃ x : Int32, o = (some (cv_i x), h0) ∧ x.toInt = tz_find l x404.toInt 0) (rt_findC (f := 6) (l := l) hT (by omega) (by omega) (by omega) (fun k hk => hl k hk) (fun x q => ⟨x, rfl, q⟩)) (fun o ho => ?_)
    obtain ⟨x405, rfl, qx405⟩ := ho
    show cw_X _ _ _ _ _ [cv_i x405] h0
    rw [show x404.toInt = zw t n p from by omega] at qx405
    refine ex_if0 oq_X12_newName_24 (t := 33) rfl rfl (fun (c406 : x405.toInt < 0) => ?_) (fun (c406 : ¬ (x405.toInt < 0)) => ?_)
    · refine ex_al oq_X12_newName_33 rfl ?_
      refine ex_il oq_X12_newName_34 rfl ?_
      refine ex_il oq_X12_newName_35 rfl ?_
      refine ex_add oq_X12_newName_36 (by omega) (fun x407 hx407 => ?_)
      refine ex_al oq_X12_newName_37 rfl ?_
      obtain ⟨x408, ax408, rx408, lx408, ux408⟩ := fi_which hT
      refine ex_gf oq_X12_newName_38 hT (k := 111) (d := 12) rfl rfl ax408 ?_
      refine ex_iw1 oq_X12_newName_41 hT (k := 123) (d := 62) (j := 6 + l.length) rfl rfl (by omega) (by omega) ⟨(cw_i32 _).1, (cw_i32 _).2⟩ (fun h409 Th409 wh409 => ?_)
      have Fh409 : cw_Fr cw_Ds cw_sh kk_X12_newName_2.2.2.2.2.2.1 h0 h409 := cw_Fr_tr Fh0 (cw_Fr_wrr wh409 (k := 123) (d := 62) rfl rfl (by decide +kernel))
      have Kh409 := zFK_wr (k := 123) wh409 ((by show 6 ≤ _; omega)) Kh0
      have eh409_4 : ri_at h409 111 4 = ri_at h0 111 4 := ri_ne wh409 (.inl (by decide))
      have eh409_5 : ri_at h409 111 5 = ri_at h0 111 5 := ri_ne wh409 (.inl (by decide))
      have eh409_6 : ri_at h409 111 6 = ri_at h0 111 6 := ri_ne wh409 (.inl (by decide))
      have eh409_7 : ri_at h409 111 7 = ri_at h0 111 7 := ri_ne wh409 (.inl (by decide))
      have eh409_8 : ri_at h409 111 8 = ri_at h0 111 8 := ri_ne wh409 (.inl (by decide))
      have eh409_9 : ri_at h409 111 9 = ri_at h0 111 9 := ri_ne wh409 (.inl (by decide))
      have eh409_10 : ri_at h409 111 10 = ri_at h0 111 10 := ri_ne wh409 (.inl (by decide))
      have eh409_11 : ri_at h409 111 11 = ri_at h0 111 11 := ri_ne wh409 (.inl (by decide))
      refine ex_al oq_X12_newName_42 rfl ?_
      refine ex_cv oq_X12_newName_43 (by decide) Th409 (k := 111) (d := 12) (as := []) (stk := []) rfl rfl rfl rfl rfl rfl ⟨rfl, rfl⟩ (R := fun o => ∃ hb : cv_H, o = (none, hb) ∧ cw_T G hb ∧ cw_Fr cw_Ds cw_sh kk_X12_token.2.2.2.2.2.1 h409 hb ∧ zR t n (zx t n p) hb) (rt_tok (t := t) (n := n) (p := zx t n p) (fun i hi => by rw [ht i hi, ← hA _ Fh409]) hn9 (fun i hi => by rw [hB _ Fh409]; exact hwr i hi) Th409 (zx_le (by omega)) (by omega) (by omega) (fun hb b1 b2 b3 => ⟨hb, rfl, b1, b2, b3⟩)) (fun o ho => ?_)
      obtain ⟨h410, rfl, Th410, Ch410, Zh410⟩ := ho
      show cw_X _ _ _ _ _ [] h410
      have Fh410 : cw_Fr cw_Ds cw_sh kk_X12_newName_2.2.2.2.2.2.1 h0 h410 := cw_Fr_tr Fh409 (cw_Fr_mono (by decide +kernel) Ch410)
      have Kh410 := zFK_fr Ch410 (by decide +kernel) Kh409
      have eh410_4 : ri_at h410 111 4 = ri_at h409 111 4 := ri_frf Ch410 (d := 12) rfl rfl (by decide +kernel)
      have eh410_5 : ri_at h410 111 5 = ri_at h409 111 5 := ri_frf Ch410 (d := 12) rfl rfl (by decide +kernel)
      have eh410_11 : ri_at h410 111 11 = ri_at h409 111 11 := ri_frf Ch410 (d := 12) rfl rfl (by decide +kernel)
      refine ex_ic oq_X12_newName_46 (m := 1) (by decide) (fun x411 hx411 => ?_)
      have hr : ∀ i, ri_at h410 123 i = ri_at h409 123 i := fun i => ri_frr Ch410 (k := 123) (d := 62) rfl rfl (by decide +kernel)
      exact ex_retb oq_X12_newName_47 rfl (by omega) (by omega) (hQ x411 h410 Th410 Fh410 Kh410 (.inl ⟨_, _, zm_ok (by omega) (by omega), zx_le (by omega), by omega, Zh410, by omega, by omega, fun k hk => by rw [hr, ri_ne wh409 (.inr (by omega))]; exact hl k hk, by rw [hr, ri_self wh409]; omega⟩))
    · refine ex_al oq_X12_newName_27 rfl ?_
      refine ex_ic oq_X12_newName_28 (m := 3) (by decide) (fun x412 hx412 => ?_)
      refine ex_cv oq_X12_newName_29 (by decide) hT (k := 111) (d := 12) (as := [cv_i x412]) (stk := []) rfl rfl rfl rfl rfl rfl ⟨rfl, rfl⟩ (R := fun o => ∃ (x : Int32) (hb : cv_H), o = (some (cv_i x), hb) ∧ cw_T G hb ∧ cw_Fr cw_Ds cw_sh kk_X12_wrong.2.2.2.2.2.1 h0 hb ∧ x.toInt = 0 ∧ ri_at hb 111 4 = x412.toInt ∧ ri_at hb 111 5 = ri_at h0 111 10) (rt_wrong hT x412 (fun x hb b1 b2 b3 b4 b5 => ⟨x, hb, rfl, b1, b2, b3, b4, b5⟩)) (fun o ho => ?_)
      obtain ⟨x413, h414, rfl, Th414, Ch414, zh414, fh414, ph414⟩ := ho
      show cw_X _ _ _ _ _ [cv_i x413] h414
      have Fh414 : cw_Fr cw_Ds cw_sh kk_X12_newName_2.2.2.2.2.2.1 h0 h414 := cw_Fr_tr Fh0 (cw_Fr_mono (by decide +kernel) Ch414)
      have Kh414 := zFK_fr Ch414 (by decide +kernel) Kh0
      exact ex_retb oq_X12_newName_32 rfl (by omega) (by omega) (hQ x413 h414 Th414 Fh414 Kh414 (.inr ⟨_, _, zm_3 (by omega) (by omega), by omega, by omega, by omega, by decide⟩))
  · refine ex_al oq_X12_newName_8 rfl ?_
    refine ex_ic oq_X12_newName_9 (m := 1) (by decide) (fun x415 hx415 => ?_)
    refine ex_cv oq_X12_newName_10 (by decide) hT (k := 111) (d := 12) (as := [cv_i x415]) (stk := []) rfl rfl rfl rfl rfl rfl ⟨rfl, rfl⟩ (R := fun o => ∃ (x : Int32) (hb : cv_H), o = (some (cv_i x), hb) ∧ cw_T G hb ∧ cw_Fr cw_Ds cw_sh kk_X12_wrong.2.2.2.2.2.1 h0 hb ∧ x.toInt = 0 ∧ ri_at hb 111 4 = x415.toInt ∧ ri_at hb 111 5 = ri_at h0 111 10) (rt_wrong hT x415 (fun x hb b1 b2 b3 b4 b5 => ⟨x, hb, rfl, b1, b2, b3, b4, b5⟩)) (fun o ho => ?_)
    obtain ⟨x416, h417, rfl, Th417, Ch417, zh417, fh417, ph417⟩ := ho
    show cw_X _ _ _ _ _ [cv_i x416] h417
    have Fh417 : cw_Fr cw_Ds cw_sh kk_X12_newName_2.2.2.2.2.2.1 h0 h417 := cw_Fr_tr Fh0 (cw_Fr_mono (by decide +kernel) Ch417)
    have Kh417 := zFK_fr Ch417 (by decide +kernel) Kh0
    exact ex_retb oq_X12_newName_13 rfl (by omega) (by omega) (hQ x416 h417 Th417 Fh417 Kh417 (.inr ⟨_, _, zm_1 (by omega), by omega, by omega, by omega, by decide⟩))
theorem rt_numbersGLK {h0 : cv_H} {n p0 : Nat} (ht : ∀ i, i < n → t i = ri_at h0 112 i) (hn9 : n ≤ 900) (hwr : ∀ i, i < 177 → ri_at h0 113 i = pp_words.getD i 0) {F M lo hi : Int32} {f m : Nat} (hF : F.toInt = f) (hM : M.toInt = m) (hlo : 0 ≤ lo.toInt) (hhi : hi.toInt ≤ 9999) (hfm : f + m ≤ 24) (hfK : 12 ≤ f) (hQ : ∀ (x : Int32) h', cw_T G h' → cw_Fr cw_Ds cw_sh kk_X12_numbers.2.2.2.2.2.1 h0 h' → zFK h0 h' → zRe t n h0 h' x (zns t n lo.toInt hi.toInt m p0) (fun vs => (∀ i, i < m → ri_at h' 114 (f + i) = vs.getD i 0) ∧ ∀ i, (i < f ∨ f + m ≤ i) → ri_at h' 114 i = ri_at h0 114 i) → Q (some (cv_i x), h')) :
    ∀ (u k : Nat) (L : cv_L) (K : Int32) (h : cv_H) (acc : List Int) (p : Nat), m - k = u → k ≤ m → K.toInt = k → cw_T G h → cw_Fr cw_Ds cw_sh kk_X12_numbers.2.2.2.2.2.1 h0 h → zFK h0 h → p ≤ n → zR t n p h → ri_at h 111 4 = ri_at h0 111 4 → ri_at h 111 5 = ri_at h0 111 5 → acc.length = k → zpre acc (zns t n lo.toInt hi.toInt (m - k) p) = zns t n lo.toInt hi.toInt m p0 → (∀ i, i < k → ri_at h 114 (f + i) = acc.getD i 0) → (∀ i, (i < f ∨ f + m ≤ i) → ri_at h 114 i = ri_at h0 114 i) → cv_get L 0 = some (cv_r 111) → cv_get L 1 = some (cv_r 114) → cv_get L 2 = some (cv_i F) → cv_get L 3 = some (cv_i M) → cv_get L 4 = some (cv_i lo) → cv_get L 5 = some (cv_i hi) → cv_get L 6 = some (cv_i K) → cw_X X 170 Q 3 L [] h := by
  have hA : ∀ h, cw_Fr cw_Ds cw_sh kk_X12_numbers.2.2.2.2.2.1 h0 h → ∀ i, ri_at h 112 i = ri_at h0 112 i := fun h F i => ri_frr F (k := 112) (d := 51) rfl rfl (by decide +kernel)
  have hB : ∀ h, cw_Fr cw_Ds cw_sh kk_X12_numbers.2.2.2.2.2.1 h0 h → ∀ i, ri_at h 113 i = ri_at h0 113 i := fun h F i => ri_frr F (k := 113) (d := 52) rfl rfl (by decide +kernel)
  intro u
  induction u with
  | zero =>
    intro k L K h acc p hu hk hK hT Fh Kh hp hzp he4 he5 hac hst hin hot g0 g1 g2 g3 g4 g5 g6
    have ek : k = m := by omega
    subst ek
    refine ex_ilw oq_X12_numbers_3 g6 ?_
    refine ex_il oq_X12_numbers_5 g3 ?_
    refine ex_if oq_X12_numbers_6 (t := 38) rfl rfl (fun (c101 : M.toInt ≤ K.toInt) => ?_) (fun (c101 : ¬ (M.toInt ≤ K.toInt)) => ?_)
    · refine ex_ic oq_X12_numbers_38 (m := 1) (by decide) (fun x102 hx102 => ?_)
      exact ex_retb oq_X12_numbers_39 rfl (by omega) (by omega) (hQ x102 h hT Fh Kh (.inl ⟨acc, p, (by rw [← hst, show k - k = 0 from by omega]; exact zns_0), hp, by omega, hzp, by omega, by omega, fun i hi => hin i (by omega), hot⟩))
    · exfalso; omega
  | succ u ih =>
    intro k L K h acc p hu hk hK hT Fh Kh hp hzp he4 he5 hac hst hin hot g0 g1 g2 g3 g4 g5 g6
    refine ex_ilw oq_X12_numbers_3 g6 ?_
    refine ex_il oq_X12_numbers_5 g3 ?_
    refine ex_if oq_X12_numbers_6 (t := 38) rfl rfl (fun (c101 : M.toInt ≤ K.toInt) => ?_) (fun (c101 : ¬ (M.toInt ≤ K.toInt)) => ?_)
    · exfalso; omega
    · refine ex_al oq_X12_numbers_9 g0 ?_
      refine ex_ilw oq_X12_numbers_10 g4 ?_
      refine ex_ilw oq_X12_numbers_12 g5 ?_
      refine ex_cv oq_X12_numbers_14 (by decide) hT (k := 111) (d := 12) (as := [cv_i lo, cv_i hi]) (stk := []) rfl rfl rfl rfl rfl rfl ⟨rfl, rfl⟩ (R := fun o => ∃ (x : Int32) (hb : cv_H), o = (some (cv_i x), hb) ∧ cw_T G hb ∧ cw_Fr cw_Ds cw_sh kk_X12_number.2.2.2.2.2.1 h hb ∧ zRe t n h hb x (zn t n lo.toInt hi.toInt p) (fun v => ri_at hb 111 11 = v)) (rt_number (t := t) (n := n) (p := p) (fun i hi => by rw [ht i hi, ← hA _ Fh]) hn9 hT (fun i hi => by rw [hB _ Fh]; exact hwr i hi) (by omega) hzp lo hi (fun x hb b1 b2 b3 => ⟨x, hb, rfl, b1, b2, b3⟩)) (fun o ho => ?_)
      obtain ⟨x102, h103, rfl, Th103, Ch103, dx102⟩ := ho
      show cw_X _ _ _ _ _ [cv_i x102] h103
      have Fh103 : cw_Fr cw_Ds cw_sh kk_X12_numbers.2.2.2.2.2.1 h0 h103 := cw_Fr_tr Fh (cw_Fr_mono (by decide +kernel) Ch103)
      have Kh103 := zFK_fr Ch103 (by decide +kernel) Kh
      refine ex_if0 oq_X12_numbers_17 (t := 22) rfl rfl (fun (c104 : ¬ x102.toInt = 0) => ?_) (fun (c104 : ¬ (¬ x102.toInt = 0)) => ?_)
      · obtain ⟨nv, nq, e1, e2, e3, e4, e5, e6, e7⟩ := zRe_yes dx102 (by omega)
        clear dx102
        obtain ⟨y1, y2, y3, y4, y5⟩ := id e4
        have e8 := zn_rg e1
        refine ex_al oq_X12_numbers_22 g1 ?_
        refine ex_il oq_X12_numbers_23 g2 ?_
        refine ex_ilw oq_X12_numbers_24 g6 ?_
        refine ex_add oq_X12_numbers_26 (by omega) (fun x105 hx105 => ?_)
        refine ex_al oq_X12_numbers_27 g0 ?_
        obtain ⟨x106, ax106, rx106, lx106, ux106⟩ := fi_got Th103
        refine ex_gf oq_X12_numbers_28 Th103 (k := 111) (d := 12) rfl rfl ax106 ?_
        refine ex_iw1 oq_X12_numbers_31 Th103 (k := 114) (d := 53) (j := f + k) rfl rfl (by omega) (by omega) ⟨(cw_i32 _).1, (cw_i32 _).2⟩ (fun h107 Th107 wh107 => ?_)
        have Fh107 : cw_Fr cw_Ds cw_sh kk_X12_numbers.2.2.2.2.2.1 h0 h107 := cw_Fr_tr Fh103 (cw_Fr_wrr wh107 (k := 114) (d := 53) rfl rfl (by decide +kernel))
        have Kh107 := zFK_wr (k := 114) wh107 ((by show 12 ≤ _; omega)) Kh103
        have eh107_4 : ri_at h107 111 4 = ri_at h103 111 4 := ri_ne wh107 (.inl (by decide))
        have eh107_5 : ri_at h107 111 5 = ri_at h103 111 5 := ri_ne wh107 (.inl (by decide))
        have eh107_6 : ri_at h107 111 6 = ri_at h103 111 6 := ri_ne wh107 (.inl (by decide))
        have eh107_7 : ri_at h107 111 7 = ri_at h103 111 7 := ri_ne wh107 (.inl (by decide))
        have eh107_8 : ri_at h107 111 8 = ri_at h103 111 8 := ri_ne wh107 (.inl (by decide))
        have eh107_9 : ri_at h107 111 9 = ri_at h103 111 9 := ri_ne wh107 (.inl (by decide))
        have eh107_10 : ri_at h107 111 10 = ri_at h103 111 10 := ri_ne wh107 (.inl (by decide))
        have eh107_11 : ri_at h107 111 11 = ri_at h103 111 11 := ri_ne wh107 (.inl (by decide))
        refine ex_incA oq_X12_numbers_32 (v := K) (m := 1) g6 (by decide) (by omega) (fun L109 x108 hx108 gL109_6 kL109 => ?_)
        have gL109_0 : cv_get L109 0 = some (cv_r 111) := kL109 0 _ (by decide) (fun q => absurd q (by decide)) g0
        have gL109_1 : cv_get L109 1 = some (cv_r 114) := kL109 1 _ (by decide) (fun q => absurd q (by decide)) g1
        have gL109_2 : cv_get L109 2 = some (cv_i F) := kL109 2 _ (by decide) (fun q => absurd q (by decide)) g2
        have gL109_3 : cv_get L109 3 = some (cv_i M) := kL109 3 _ (by decide) (fun q => absurd q (by decide)) g3
        have gL109_4 : cv_get L109 4 = some (cv_i lo) := kL109 4 _ (by decide) (fun q => absurd q (by decide)) g4
        have gL109_5 : cv_get L109 5 = some (cv_i hi) := kL109 5 _ (by decide) (fun _ => rfl) g5
        refine ex_go oq_X12_numbers_35 (t := 3) rfl rfl ?_
        have hr : ∀ i, ri_at h103 114 i = ri_at h 114 i := fun i => ri_frr Ch103 (k := 114) (d := 53) rfl rfl (by decide +kernel)
        exact ih (k + 1) L109 x108 h107 (acc ++ [nv]) nq (by omega) (by omega) (by omega) Th107 Fh107 Kh107 e2 ⟨by omega, by omega, by omega, by omega, fun q1 q2 => by have := y5 q1 q2; omega⟩ (by omega) (by omega) (by rw [List.length_append]; simp only [List.length_cons, List.length_nil]; omega) (by rw [← hst, show m - k = (m - (k + 1)) + 1 from by omega]; exact (zns_s e1).symm) (fun i hi => by
          rw [zget_app (by omega), hac]
          by_cases q : i < k
          · rw [if_pos q, ri_ne wh107 (.inr (by omega)), hr]; exact hin i q
          · rw [if_neg q, show i = k from by omega, ri_self wh107]; omega) (fun i hi => by rw [ri_ne wh107 (.inr (by omega)), hr]; exact hot i hi) gL109_0 gL109_1 gL109_2 gL109_3 gL109_4 gL109_5 gL109_6
      · obtain ⟨fc, fa, e1, e2, e3, e4, e5⟩ := zRe_no dx102 (by omega)
        clear dx102
        refine ex_ic oq_X12_numbers_20 (m := 0) (by decide) (fun x110 hx110 => ?_)
        exact ex_retb oq_X12_numbers_21 rfl (by omega) (by omega) (hQ x110 h103 Th103 Fh103 Kh103 (.inr ⟨_, _, (by rw [← hst, show m - k = (m - (k + 1)) + 1 from by omega]; exact zns_e e1), by omega, by omega, by omega, by omega⟩))
theorem rt_numbersGK {h0 : cv_H} {n p : Nat} (hT : cw_T G h0) (hpn : p ≤ n) (hz : zR t n p h0) (ht : ∀ i, i < n → t i = ri_at h0 112 i) (hn9 : n ≤ 900) (hwr : ∀ i, i < 177 → ri_at h0 113 i = pp_words.getD i 0) {F M lo hi : Int32} {f m : Nat} (hF : F.toInt = f) (hM : M.toInt = m) (hlo : 0 ≤ lo.toInt) (hhi : hi.toInt ≤ 9999) (hfm : f + m ≤ 24) (hfK : 12 ≤ f) (hQ : ∀ (x : Int32) h', cw_T G h' → cw_Fr cw_Ds cw_sh kk_X12_numbers.2.2.2.2.2.1 h0 h' → zFK h0 h' → zRe t n h0 h' x (zns t n lo.toInt hi.toInt m p) (fun vs => (∀ i, i < m → ri_at h' 114 (f + i) = vs.getD i 0) ∧ ∀ i, (i < f ∨ f + m ≤ i) → ri_at h' 114 i = ri_at h0 114 i) → Q (some (cv_i x), h')) : cw_X X 170 Q 0 (cv_ent 0 [cv_r 111, cv_r 114, cv_i F, cv_i M, cv_i lo, cv_i hi]) [] h0 := by
  have Fh0 : cw_Fr cw_Ds cw_sh kk_X12_numbers.2.2.2.2.2.1 h0 h0 := cw_Fr_refl
  have Kh0 : zFK h0 h0 := zFK_0
  refine ex_ic oq_X12_numbers_0 (m := 0) (by decide) (fun x301 hx301 => ?_)
  refine ex_iswA oq_X12_numbers_1 (fun L302 gL302_6 kL302 => ?_)
  have gL302_0 : cv_get L302 0 = some (cv_r 111) := kL302 0 _ (by decide) (fun q => absurd q (by decide)) rfl
  have gL302_1 : cv_get L302 1 = some (cv_r 114) := kL302 1 _ (by decide) (fun q => absurd q (by decide)) rfl
  have gL302_2 : cv_get L302 2 = some (cv_i F) := kL302 2 _ (by decide) (fun q => absurd q (by decide)) rfl
  have gL302_3 : cv_get L302 3 = some (cv_i M) := kL302 3 _ (by decide) (fun q => absurd q (by decide)) rfl
  have gL302_4 : cv_get L302 4 = some (cv_i lo) := kL302 4 _ (by decide) (fun q => absurd q (by decide)) rfl
  have gL302_5 : cv_get L302 5 = some (cv_i hi) := kL302 5 _ (by decide) (fun _ => rfl) rfl
  exact rt_numbersGLK ht hn9 hwr hF hM hlo hhi hfm hfK hQ m 0 L302 x301 h0 [] p (by omega) (by omega) (by omega) hT Fh0 Kh0 hpn hz (by omega) (by omega) rfl zpre_nil (fun i hi => absurd hi (by omega)) (fun i _ => rfl) gL302_0 gL302_1 gL302_2 gL302_3 gL302_4 gL302_5 gL302_6
theorem rt_numbersSLK {h0 : cv_H} {n p0 : Nat} (ht : ∀ i, i < n → t i = ri_at h0 112 i) (hn9 : n ≤ 900) (hwr : ∀ i, i < 177 → ri_at h0 113 i = pp_words.getD i 0) {F M lo hi : Int32} {f m : Nat} (hF : F.toInt = f) (hM : M.toInt = m) (hlo : 0 ≤ lo.toInt) (hhi : hi.toInt ≤ 9999) (hfm : f + m ≤ 72) (hfK : 36 ≤ f) (hQ : ∀ (x : Int32) h', cw_T G h' → cw_Fr cw_Ds cw_sh kk_X12_numbers_1.2.2.2.2.2.1 h0 h' → zFK h0 h' → zRe t n h0 h' x (zns t n lo.toInt hi.toInt m p0) (fun vs => (∀ i, i < m → ri_at h' 120 (f + i) = vs.getD i 0) ∧ ∀ i, (i < f ∨ f + m ≤ i) → ri_at h' 120 i = ri_at h0 120 i) → Q (some (cv_i x), h')) :
    ∀ (u k : Nat) (L : cv_L) (K : Int32) (h : cv_H) (acc : List Int) (p : Nat), m - k = u → k ≤ m → K.toInt = k → cw_T G h → cw_Fr cw_Ds cw_sh kk_X12_numbers_1.2.2.2.2.2.1 h0 h → zFK h0 h → p ≤ n → zR t n p h → ri_at h 111 4 = ri_at h0 111 4 → ri_at h 111 5 = ri_at h0 111 5 → acc.length = k → zpre acc (zns t n lo.toInt hi.toInt (m - k) p) = zns t n lo.toInt hi.toInt m p0 → (∀ i, i < k → ri_at h 120 (f + i) = acc.getD i 0) → (∀ i, (i < f ∨ f + m ≤ i) → ri_at h 120 i = ri_at h0 120 i) → cv_get L 0 = some (cv_r 111) → cv_get L 1 = some (cv_r 120) → cv_get L 2 = some (cv_i F) → cv_get L 3 = some (cv_i M) → cv_get L 4 = some (cv_i lo) → cv_get L 5 = some (cv_i hi) → cv_get L 6 = some (cv_i K) → cw_X X 170 Q 3 L [] h := by
  have hA : ∀ h, cw_Fr cw_Ds cw_sh kk_X12_numbers_1.2.2.2.2.2.1 h0 h → ∀ i, ri_at h 112 i = ri_at h0 112 i := fun h F i => ri_frr F (k := 112) (d := 51) rfl rfl (by decide +kernel)
  have hB : ∀ h, cw_Fr cw_Ds cw_sh kk_X12_numbers_1.2.2.2.2.2.1 h0 h → ∀ i, ri_at h 113 i = ri_at h0 113 i := fun h F i => ri_frr F (k := 113) (d := 52) rfl rfl (by decide +kernel)
  intro u
  induction u with
  | zero =>
    intro k L K h acc p hu hk hK hT Fh Kh hp hzp he4 he5 hac hst hin hot g0 g1 g2 g3 g4 g5 g6
    have ek : k = m := by omega
    subst ek
    refine ex_ilw oq_X12_numbers_3 g6 ?_
    refine ex_il oq_X12_numbers_5 g3 ?_
    refine ex_if oq_X12_numbers_6 (t := 38) rfl rfl (fun (c101 : M.toInt ≤ K.toInt) => ?_) (fun (c101 : ¬ (M.toInt ≤ K.toInt)) => ?_)
    · refine ex_ic oq_X12_numbers_38 (m := 1) (by decide) (fun x102 hx102 => ?_)
      exact ex_retb oq_X12_numbers_39 rfl (by omega) (by omega) (hQ x102 h hT Fh Kh (.inl ⟨acc, p, (by rw [← hst, show k - k = 0 from by omega]; exact zns_0), hp, by omega, hzp, by omega, by omega, fun i hi => hin i (by omega), hot⟩))
    · exfalso; omega
  | succ u ih =>
    intro k L K h acc p hu hk hK hT Fh Kh hp hzp he4 he5 hac hst hin hot g0 g1 g2 g3 g4 g5 g6
    refine ex_ilw oq_X12_numbers_3 g6 ?_
    refine ex_il oq_X12_numbers_5 g3 ?_
    refine ex_if oq_X12_numbers_6 (t := 38) rfl rfl (fun (c101 : M.toInt ≤ K.toInt) => ?_) (fun (c101 : ¬ (M.toInt ≤ K.toInt)) => ?_)
    · exfalso; omega
    · refine ex_al oq_X12_numbers_9 g0 ?_
      refine ex_ilw oq_X12_numbers_10 g4 ?_
      refine ex_ilw oq_X12_numbers_12 g5 ?_
      refine ex_cv oq_X12_numbers_14 (by decide) hT (k := 111) (d := 12) (as := [cv_i lo, cv_i hi]) (stk := []) rfl rfl rfl rfl rfl rfl ⟨rfl, rfl⟩ (R := fun o => ∃ (x : Int32) (hb : cv_H), o = (some (cv_i x), hb) ∧ cw_T G hb ∧ cw_Fr cw_Ds cw_sh kk_X12_number.2.2.2.2.2.1 h hb ∧ zRe t n h hb x (zn t n lo.toInt hi.toInt p) (fun v => ri_at hb 111 11 = v)) (rt_number (t := t) (n := n) (p := p) (fun i hi => by rw [ht i hi, ← hA _ Fh]) hn9 hT (fun i hi => by rw [hB _ Fh]; exact hwr i hi) (by omega) hzp lo hi (fun x hb b1 b2 b3 => ⟨x, hb, rfl, b1, b2, b3⟩)) (fun o ho => ?_)
      obtain ⟨x102, h103, rfl, Th103, Ch103, dx102⟩ := ho
      show cw_X _ _ _ _ _ [cv_i x102] h103
      have Fh103 : cw_Fr cw_Ds cw_sh kk_X12_numbers_1.2.2.2.2.2.1 h0 h103 := cw_Fr_tr Fh (cw_Fr_mono (by decide +kernel) Ch103)
      have Kh103 := zFK_fr Ch103 (by decide +kernel) Kh
      refine ex_if0 oq_X12_numbers_17 (t := 22) rfl rfl (fun (c104 : ¬ x102.toInt = 0) => ?_) (fun (c104 : ¬ (¬ x102.toInt = 0)) => ?_)
      · obtain ⟨nv, nq, e1, e2, e3, e4, e5, e6, e7⟩ := zRe_yes dx102 (by omega)
        clear dx102
        obtain ⟨y1, y2, y3, y4, y5⟩ := id e4
        have e8 := zn_rg e1
        refine ex_al oq_X12_numbers_22 g1 ?_
        refine ex_il oq_X12_numbers_23 g2 ?_
        refine ex_ilw oq_X12_numbers_24 g6 ?_
        refine ex_add oq_X12_numbers_26 (by omega) (fun x105 hx105 => ?_)
        refine ex_al oq_X12_numbers_27 g0 ?_
        obtain ⟨x106, ax106, rx106, lx106, ux106⟩ := fi_got Th103
        refine ex_gf oq_X12_numbers_28 Th103 (k := 111) (d := 12) rfl rfl ax106 ?_
        refine ex_iw1 oq_X12_numbers_31 Th103 (k := 120) (d := 59) (j := f + k) rfl rfl (by omega) (by omega) ⟨(cw_i32 _).1, (cw_i32 _).2⟩ (fun h107 Th107 wh107 => ?_)
        have Fh107 : cw_Fr cw_Ds cw_sh kk_X12_numbers_1.2.2.2.2.2.1 h0 h107 := cw_Fr_tr Fh103 (cw_Fr_wrr wh107 (k := 120) (d := 59) rfl rfl (by decide +kernel))
        have Kh107 := zFK_wr (k := 120) wh107 ((by show 36 ≤ _; omega)) Kh103
        have eh107_4 : ri_at h107 111 4 = ri_at h103 111 4 := ri_ne wh107 (.inl (by decide))
        have eh107_5 : ri_at h107 111 5 = ri_at h103 111 5 := ri_ne wh107 (.inl (by decide))
        have eh107_6 : ri_at h107 111 6 = ri_at h103 111 6 := ri_ne wh107 (.inl (by decide))
        have eh107_7 : ri_at h107 111 7 = ri_at h103 111 7 := ri_ne wh107 (.inl (by decide))
        have eh107_8 : ri_at h107 111 8 = ri_at h103 111 8 := ri_ne wh107 (.inl (by decide))
        have eh107_9 : ri_at h107 111 9 = ri_at h103 111 9 := ri_ne wh107 (.inl (by decide))
        have eh107_10 : ri_at h107 111 10 = ri_at h103 111 10 := ri_ne wh107 (.inl (by decide))
        have eh107_11 : ri_at h107 111 11 = ri_at h103 111 11 := ri_ne wh107 (.inl (by decide))
        refine ex_incA oq_X12_numbers_32 (v := K) (m := 1) g6 (by decide) (by omega) (fun L109 x108 hx108 gL109_6 kL109 => ?_)
        have gL109_0 : cv_get L109 0 = some (cv_r 111) := kL109 0 _ (by decide) (fun q => absurd q (by decide)) g0
        have gL109_1 : cv_get L109 1 = some (cv_r 120) := kL109 1 _ (by decide) (fun q => absurd q (by decide)) g1
        have gL109_2 : cv_get L109 2 = some (cv_i F) := kL109 2 _ (by decide) (fun q => absurd q (by decide)) g2
        have gL109_3 : cv_get L109 3 = some (cv_i M) := kL109 3 _ (by decide) (fun q => absurd q (by decide)) g3
        have gL109_4 : cv_get L109 4 = some (cv_i lo) := kL109 4 _ (by decide) (fun q => absurd q (by decide)) g4
        have gL109_5 : cv_get L109 5 = some (cv_i hi) := kL109 5 _ (by decide) (fun _ => rfl) g5
        refine ex_go oq_X12_numbers_35 (t := 3) rfl rfl ?_
        have hr : ∀ i, ri_at h103 120 i = ri_at h 120 i := fun i => ri_frr Ch103 (k := 120) (d := 59) rfl rfl (by decide +kernel)
        exact ih (k + 1) L109 x108 h107 (acc ++ [nv]) nq (by omega) (by omega) (by omega) Th107 Fh107 Kh107 e2 ⟨by omega, by omega, by omega, by omega, fun q1 q2 => by have := y5 q1 q2; omega⟩ (by omega) (by omega) (by rw [List.length_append]; simp only [List.length_cons, List.length_nil]; omega) (by rw [← hst, show m - k = (m - (k + 1)) + 1 from by omega]; exact (zns_s e1).symm) (fun i hi => by
          rw [zget_app (by omega), hac]
          by_cases q : i < k
          · rw [if_pos q, ri_ne wh107 (.inr (by omega)), hr]; exact hin i q
          · rw [if_neg q, show i = k from by omega, ri_self wh107]; omega) (fun i hi => by rw [ri_ne wh107 (.inr (by omega)), hr]; exact hot i hi) gL109_0 gL109_1 gL109_2 gL109_3 gL109_4 gL109_5 gL109_6
      · obtain ⟨fc, fa, e1, e2, e3, e4, e5⟩ := zRe_no dx102 (by omega)
        clear dx102
        refine ex_ic oq_X12_numbers_20 (m := 0) (by decide) (fun x110 hx110 => ?_)
        exact ex_retb oq_X12_numbers_21 rfl (by omega) (by omega) (hQ x110 h103 Th103 Fh103 Kh103 (.inr ⟨_, _, (by rw [← hst, show m - k = (m - (k + 1)) + 1 from by omega]; exact zns_e e1), by omega, by omega, by omega, by omega⟩))
theorem rt_numbersSK {h0 : cv_H} {n p : Nat} (hT : cw_T G h0) (hpn : p ≤ n) (hz : zR t n p h0) (ht : ∀ i, i < n → t i = ri_at h0 112 i) (hn9 : n ≤ 900) (hwr : ∀ i, i < 177 → ri_at h0 113 i = pp_words.getD i 0) {F M lo hi : Int32} {f m : Nat} (hF : F.toInt = f) (hM : M.toInt = m) (hlo : 0 ≤ lo.toInt) (hhi : hi.toInt ≤ 9999) (hfm : f + m ≤ 72) (hfK : 36 ≤ f) (hQ : ∀ (x : Int32) h', cw_T G h' → cw_Fr cw_Ds cw_sh kk_X12_numbers_1.2.2.2.2.2.1 h0 h' → zFK h0 h' → zRe t n h0 h' x (zns t n lo.toInt hi.toInt m p) (fun vs => (∀ i, i < m → ri_at h' 120 (f + i) = vs.getD i 0) ∧ ∀ i, (i < f ∨ f + m ≤ i) → ri_at h' 120 i = ri_at h0 120 i) → Q (some (cv_i x), h')) : cw_X X 170 Q 0 (cv_ent 0 [cv_r 111, cv_r 120, cv_i F, cv_i M, cv_i lo, cv_i hi]) [] h0 := by
  have Fh0 : cw_Fr cw_Ds cw_sh kk_X12_numbers_1.2.2.2.2.2.1 h0 h0 := cw_Fr_refl
  have Kh0 : zFK h0 h0 := zFK_0
  refine ex_ic oq_X12_numbers_0 (m := 0) (by decide) (fun x301 hx301 => ?_)
  refine ex_iswA oq_X12_numbers_1 (fun L302 gL302_6 kL302 => ?_)
  have gL302_0 : cv_get L302 0 = some (cv_r 111) := kL302 0 _ (by decide) (fun q => absurd q (by decide)) rfl
  have gL302_1 : cv_get L302 1 = some (cv_r 120) := kL302 1 _ (by decide) (fun q => absurd q (by decide)) rfl
  have gL302_2 : cv_get L302 2 = some (cv_i F) := kL302 2 _ (by decide) (fun q => absurd q (by decide)) rfl
  have gL302_3 : cv_get L302 3 = some (cv_i M) := kL302 3 _ (by decide) (fun q => absurd q (by decide)) rfl
  have gL302_4 : cv_get L302 4 = some (cv_i lo) := kL302 4 _ (by decide) (fun q => absurd q (by decide)) rfl
  have gL302_5 : cv_get L302 5 = some (cv_i hi) := kL302 5 _ (by decide) (fun _ => rfl) rfl
  exact rt_numbersSLK ht hn9 hwr hF hM hlo hhi hfm hfK hQ m 0 L302 x301 h0 [] p (by omega) (by omega) (by omega) hT Fh0 Kh0 hpn hz (by omega) (by omega) rfl zpre_nil (fun i hi => absurd hi (by omega)) (fun i _ => rfl) gL302_0 gL302_1 gL302_2 gL302_3 gL302_4 gL302_5 gL302_6
theorem rt_numbersHLK {h0 : cv_H} {n p0 : Nat} (ht : ∀ i, i < n → t i = ri_at h0 112 i) (hn9 : n ≤ 900) (hwr : ∀ i, i < 177 → ri_at h0 113 i = pp_words.getD i 0) {F M lo hi : Int32} {f m : Nat} (hF : F.toInt = f) (hM : M.toInt = m) (hlo : 0 ≤ lo.toInt) (hhi : hi.toInt ≤ 9999) (hfm : f + m ≤ 128) (hfK : 64 ≤ f) (hQ : ∀ (x : Int32) h', cw_T G h' → cw_Fr cw_Ds cw_sh mk_gt h0 h' → zFK h0 h' → zRe t n h0 h' x (zns t n lo.toInt hi.toInt m p0) (fun vs => (∀ i, i < m → ri_at h' 119 (f + i) = vs.getD i 0) ∧ ∀ i, (i < f ∨ f + m ≤ i) → ri_at h' 119 i = ri_at h0 119 i) → Q (some (cv_i x), h')) :
    ∀ (u k : Nat) (L : cv_L) (K : Int32) (h : cv_H) (acc : List Int) (p : Nat), m - k = u → k ≤ m → K.toInt = k → cw_T G h → cw_Fr cw_Ds cw_sh mk_gt h0 h → zFK h0 h → p ≤ n → zR t n p h → ri_at h 111 4 = ri_at h0 111 4 → ri_at h 111 5 = ri_at h0 111 5 → acc.length = k → zpre acc (zns t n lo.toInt hi.toInt (m - k) p) = zns t n lo.toInt hi.toInt m p0 → (∀ i, i < k → ri_at h 119 (f + i) = acc.getD i 0) → (∀ i, (i < f ∨ f + m ≤ i) → ri_at h 119 i = ri_at h0 119 i) → cv_get L 0 = some (cv_r 111) → cv_get L 1 = some (cv_r 119) → cv_get L 2 = some (cv_i F) → cv_get L 3 = some (cv_i M) → cv_get L 4 = some (cv_i lo) → cv_get L 5 = some (cv_i hi) → cv_get L 6 = some (cv_i K) → cw_X X 170 Q 3 L [] h := by
  have hA : ∀ h, cw_Fr cw_Ds cw_sh mk_gt h0 h → ∀ i, ri_at h 112 i = ri_at h0 112 i := fun h F i => ri_frr F (k := 112) (d := 51) rfl rfl (by decide +kernel)
  have hB : ∀ h, cw_Fr cw_Ds cw_sh mk_gt h0 h → ∀ i, ri_at h 113 i = ri_at h0 113 i := fun h F i => ri_frr F (k := 113) (d := 52) rfl rfl (by decide +kernel)
  intro u
  induction u with
  | zero =>
    intro k L K h acc p hu hk hK hT Fh Kh hp hzp he4 he5 hac hst hin hot g0 g1 g2 g3 g4 g5 g6
    have ek : k = m := by omega
    subst ek
    refine ex_ilw oq_X12_numbers_3 g6 ?_
    refine ex_il oq_X12_numbers_5 g3 ?_
    refine ex_if oq_X12_numbers_6 (t := 38) rfl rfl (fun (c101 : M.toInt ≤ K.toInt) => ?_) (fun (c101 : ¬ (M.toInt ≤ K.toInt)) => ?_)
    · refine ex_ic oq_X12_numbers_38 (m := 1) (by decide) (fun x102 hx102 => ?_)
      exact ex_retb oq_X12_numbers_39 rfl (by omega) (by omega) (hQ x102 h hT Fh Kh (.inl ⟨acc, p, (by rw [← hst, show k - k = 0 from by omega]; exact zns_0), hp, by omega, hzp, by omega, by omega, fun i hi => hin i (by omega), hot⟩))
    · exfalso; omega
  | succ u ih =>
    intro k L K h acc p hu hk hK hT Fh Kh hp hzp he4 he5 hac hst hin hot g0 g1 g2 g3 g4 g5 g6
    refine ex_ilw oq_X12_numbers_3 g6 ?_
    refine ex_il oq_X12_numbers_5 g3 ?_
    refine ex_if oq_X12_numbers_6 (t := 38) rfl rfl (fun (c101 : M.toInt ≤ K.toInt) => ?_) (fun (c101 : ¬ (M.toInt ≤ K.toInt)) => ?_)
    · exfalso; omega
    · refine ex_al oq_X12_numbers_9 g0 ?_
      refine ex_ilw oq_X12_numbers_10 g4 ?_
      refine ex_ilw oq_X12_numbers_12 g5 ?_
      refine ex_cv oq_X12_numbers_14 (by decide) hT (k := 111) (d := 12) (as := [cv_i lo, cv_i hi]) (stk := []) rfl rfl rfl rfl rfl rfl ⟨rfl, rfl⟩ (R := fun o => ∃ (x : Int32) (hb : cv_H), o = (some (cv_i x), hb) ∧ cw_T G hb ∧ cw_Fr cw_Ds cw_sh kk_X12_number.2.2.2.2.2.1 h hb ∧ zRe t n h hb x (zn t n lo.toInt hi.toInt p) (fun v => ri_at hb 111 11 = v)) (rt_number (t := t) (n := n) (p := p) (fun i hi => by rw [ht i hi, ← hA _ Fh]) hn9 hT (fun i hi => by rw [hB _ Fh]; exact hwr i hi) (by omega) hzp lo hi (fun x hb b1 b2 b3 => ⟨x, hb, rfl, b1, b2, b3⟩)) (fun o ho => ?_)
      obtain ⟨x102, h103, rfl, Th103, Ch103, dx102⟩ := ho
      show cw_X _ _ _ _ _ [cv_i x102] h103
      have Fh103 : cw_Fr cw_Ds cw_sh mk_gt h0 h103 := cw_Fr_tr Fh (cw_Fr_mono (by decide +kernel) Ch103)
      have Kh103 := zFK_fr Ch103 (by decide +kernel) Kh
      refine ex_if0 oq_X12_numbers_17 (t := 22) rfl rfl (fun (c104 : ¬ x102.toInt = 0) => ?_) (fun (c104 : ¬ (¬ x102.toInt = 0)) => ?_)
      · obtain ⟨nv, nq, e1, e2, e3, e4, e5, e6, e7⟩ := zRe_yes dx102 (by omega)
        clear dx102
        obtain ⟨y1, y2, y3, y4, y5⟩ := id e4
        have e8 := zn_rg e1
        refine ex_al oq_X12_numbers_22 g1 ?_
        refine ex_il oq_X12_numbers_23 g2 ?_
        refine ex_ilw oq_X12_numbers_24 g6 ?_
        refine ex_add oq_X12_numbers_26 (by omega) (fun x105 hx105 => ?_)
        refine ex_al oq_X12_numbers_27 g0 ?_
        obtain ⟨x106, ax106, rx106, lx106, ux106⟩ := fi_got Th103
        refine ex_gf oq_X12_numbers_28 Th103 (k := 111) (d := 12) rfl rfl ax106 ?_
        refine ex_iw oq_X12_numbers_31 Th103 (k := 119) (d := 58) (j := f + k) rfl rfl (by omega) (by omega) (fun r hr => zy_top hr) (fun h107 Th107 wh107 => ?_)
        have Fh107 : cw_Fr cw_Ds cw_sh mk_gt h0 h107 := cw_Fr_tr Fh103 (cw_Fr_wrr wh107 (k := 119) (d := 58) rfl rfl (by decide +kernel))
        have Kh107 := zFK_wr (k := 119) wh107 ((by show 64 ≤ _; omega)) Kh103
        have eh107_4 : ri_at h107 111 4 = ri_at h103 111 4 := ri_ne wh107 (.inl (by decide))
        have eh107_5 : ri_at h107 111 5 = ri_at h103 111 5 := ri_ne wh107 (.inl (by decide))
        have eh107_6 : ri_at h107 111 6 = ri_at h103 111 6 := ri_ne wh107 (.inl (by decide))
        have eh107_7 : ri_at h107 111 7 = ri_at h103 111 7 := ri_ne wh107 (.inl (by decide))
        have eh107_8 : ri_at h107 111 8 = ri_at h103 111 8 := ri_ne wh107 (.inl (by decide))
        have eh107_9 : ri_at h107 111 9 = ri_at h103 111 9 := ri_ne wh107 (.inl (by decide))
        have eh107_10 : ri_at h107 111 10 = ri_at h103 111 10 := ri_ne wh107 (.inl (by decide))
        have eh107_11 : ri_at h107 111 11 = ri_at h103 111 11 := ri_ne wh107 (.inl (by decide))
        refine ex_incA oq_X12_numbers_32 (v := K) (m := 1) g6 (by decide) (by omega) (fun L109 x108 hx108 gL109_6 kL109 => ?_)
        have gL109_0 : cv_get L109 0 = some (cv_r 111) := kL109 0 _ (by decide) (fun q => absurd q (by decide)) g0
        have gL109_1 : cv_get L109 1 = some (cv_r 119) := kL109 1 _ (by decide) (fun q => absurd q (by decide)) g1
        have gL109_2 : cv_get L109 2 = some (cv_i F) := kL109 2 _ (by decide) (fun q => absurd q (by decide)) g2
        have gL109_3 : cv_get L109 3 = some (cv_i M) := kL109 3 _ (by decide) (fun q => absurd q (by decide)) g3
        have gL109_4 : cv_get L109 4 = some (cv_i lo) := kL109 4 _ (by decide) (fun q => absurd q (by decide)) g4
        have gL109_5 : cv_get L109 5 = some (cv_i hi) := kL109 5 _ (by decide) (fun _ => rfl) g5
        refine ex_go oq_X12_numbers_35 (t := 3) rfl rfl ?_
        have hr : ∀ i, ri_at h103 119 i = ri_at h 119 i := fun i => ri_frq Ch103 (k := 119) (d := 58) rfl rfl (by decide) (by decide +kernel)
        exact ih (k + 1) L109 x108 h107 (acc ++ [nv]) nq (by omega) (by omega) (by omega) Th107 Fh107 Kh107 e2 ⟨by omega, by omega, by omega, by omega, fun q1 q2 => by have := y5 q1 q2; omega⟩ (by omega) (by omega) (by rw [List.length_append]; simp only [List.length_cons, List.length_nil]; omega) (by rw [← hst, show m - k = (m - (k + 1)) + 1 from by omega]; exact (zns_s e1).symm) (fun i hi => by
          rw [zget_app (by omega), hac]
          by_cases q : i < k
          · rw [if_pos q, ri_ne wh107 (.inr (by omega)), hr]; exact hin i q
          · rw [if_neg q, show i = k from by omega, ri_self wh107]; omega) (fun i hi => by rw [ri_ne wh107 (.inr (by omega)), hr]; exact hot i hi) gL109_0 gL109_1 gL109_2 gL109_3 gL109_4 gL109_5 gL109_6
      · obtain ⟨fc, fa, e1, e2, e3, e4, e5⟩ := zRe_no dx102 (by omega)
        clear dx102
        refine ex_ic oq_X12_numbers_20 (m := 0) (by decide) (fun x110 hx110 => ?_)
        exact ex_retb oq_X12_numbers_21 rfl (by omega) (by omega) (hQ x110 h103 Th103 Fh103 Kh103 (.inr ⟨_, _, (by rw [← hst, show m - k = (m - (k + 1)) + 1 from by omega]; exact zns_e e1), by omega, by omega, by omega, by omega⟩))
theorem rt_numbersHK {h0 : cv_H} {n p : Nat} (hT : cw_T G h0) (hpn : p ≤ n) (hz : zR t n p h0) (ht : ∀ i, i < n → t i = ri_at h0 112 i) (hn9 : n ≤ 900) (hwr : ∀ i, i < 177 → ri_at h0 113 i = pp_words.getD i 0) {F M lo hi : Int32} {f m : Nat} (hF : F.toInt = f) (hM : M.toInt = m) (hlo : 0 ≤ lo.toInt) (hhi : hi.toInt ≤ 9999) (hfm : f + m ≤ 128) (hfK : 64 ≤ f) (hQ : ∀ (x : Int32) h', cw_T G h' → cw_Fr cw_Ds cw_sh mk_gt h0 h' → zFK h0 h' → zRe t n h0 h' x (zns t n lo.toInt hi.toInt m p) (fun vs => (∀ i, i < m → ri_at h' 119 (f + i) = vs.getD i 0) ∧ ∀ i, (i < f ∨ f + m ≤ i) → ri_at h' 119 i = ri_at h0 119 i) → Q (some (cv_i x), h')) : cw_X X 170 Q 0 (cv_ent 0 [cv_r 111, cv_r 119, cv_i F, cv_i M, cv_i lo, cv_i hi]) [] h0 := by
  have Fh0 : cw_Fr cw_Ds cw_sh mk_gt h0 h0 := cw_Fr_refl
  have Kh0 : zFK h0 h0 := zFK_0
  refine ex_ic oq_X12_numbers_0 (m := 0) (by decide) (fun x301 hx301 => ?_)
  refine ex_iswA oq_X12_numbers_1 (fun L302 gL302_6 kL302 => ?_)
  have gL302_0 : cv_get L302 0 = some (cv_r 111) := kL302 0 _ (by decide) (fun q => absurd q (by decide)) rfl
  have gL302_1 : cv_get L302 1 = some (cv_r 119) := kL302 1 _ (by decide) (fun q => absurd q (by decide)) rfl
  have gL302_2 : cv_get L302 2 = some (cv_i F) := kL302 2 _ (by decide) (fun q => absurd q (by decide)) rfl
  have gL302_3 : cv_get L302 3 = some (cv_i M) := kL302 3 _ (by decide) (fun q => absurd q (by decide)) rfl
  have gL302_4 : cv_get L302 4 = some (cv_i lo) := kL302 4 _ (by decide) (fun q => absurd q (by decide)) rfl
  have gL302_5 : cv_get L302 5 = some (cv_i hi) := kL302 5 _ (by decide) (fun _ => rfl) rfl
  exact rt_numbersHLK ht hn9 hwr hF hM hlo hhi hfm hfK hQ m 0 L302 x301 h0 [] p (by omega) (by omega) (by omega) hT Fh0 Kh0 hpn hz (by omega) (by omega) rfl zpre_nil (fun i hi => absurd hi (by omega)) (fun i _ => rfl) gL302_0 gL302_1 gL302_2 gL302_3 gL302_4 gL302_5 gL302_6
end TZ
