/-! ===== rows of numbers: the reference ===== -/
section TZ
variable {G : Int} {X : cv_X} {Q : cv_O → Prop} {t : Nat → Int}
theorem rt_numbersSL {h0 : cv_H} {n p0 : Nat} (ht : ∀ i, i < n → t i = ri_at h0 112 i) (hn9 : n ≤ 900) (hwr : ∀ i, i < 177 → ri_at h0 113 i = pp_words.getD i 0) {F M lo hi : Int32} {f m : Nat} (hF : F.toInt = f) (hM : M.toInt = m) (hlo : 0 ≤ lo.toInt) (hhi : hi.toInt ≤ 9999) (hfm : f + m ≤ 72) (hQ : ∀ (x : Int32) h', cw_T G h' → cw_Fr cw_Ds cw_sh kk_X12_numbers_1.2.2.2.2.2.1 h0 h' → zRe t n h0 h' x (zns t n lo.toInt hi.toInt m p0) (fun vs => (∀ i, i < m → ri_at h' 120 (f + i) = vs.getD i 0) ∧ ∀ i, (i < f ∨ f + m ≤ i) → ri_at h' 120 i = ri_at h0 120 i) → Q (some (cv_i x), h')) :
    ∀ (u k : Nat) (L : cv_L) (K : Int32) (h : cv_H) (acc : List Int) (p : Nat), m - k = u → k ≤ m → K.toInt = k → cw_T G h → cw_Fr cw_Ds cw_sh kk_X12_numbers_1.2.2.2.2.2.1 h0 h → p ≤ n → zR t n p h → ri_at h 111 4 = ri_at h0 111 4 → ri_at h 111 5 = ri_at h0 111 5 → acc.length = k → zpre acc (zns t n lo.toInt hi.toInt (m - k) p) = zns t n lo.toInt hi.toInt m p0 → (∀ i, i < k → ri_at h 120 (f + i) = acc.getD i 0) → (∀ i, (i < f ∨ f + m ≤ i) → ri_at h 120 i = ri_at h0 120 i) → cv_get L 0 = some (cv_r 111) → cv_get L 1 = some (cv_r 120) → cv_get L 2 = some (cv_i F) → cv_get L 3 = some (cv_i M) → cv_get L 4 = some (cv_i lo) → cv_get L 5 = some (cv_i hi) → cv_get L 6 = some (cv_i K) → cw_X X 170 Q 3 L [] h := by
  have hA : ∀ h, cw_Fr cw_Ds cw_sh kk_X12_numbers_1.2.2.2.2.2.1 h0 h → ∀ i, ri_at h 112 i = ri_at h0 112 i := fun h F i => ri_frr F (k := 112) (d := 51) rfl rfl (by decide +kernel)
  have hB : ∀ h, cw_Fr cw_Ds cw_sh kk_X12_numbers_1.2.2.2.2.2.1 h0 h → ∀ i, ri_at h 113 i = ri_at h0 113 i := fun h F i => ri_frr F (k := 113) (d := 52) rfl rfl (by decide +kernel)
  intro u
  induction u with
  | zero =>
    intro k L K h acc p hu hk hK hT Fh hp hzp he4 he5 hac hst hin hot g0 g1 g2 g3 g4 g5 g6
    have ek : k = m := by omega
    subst ek
    refine ex_ilw oq_X12_numbers_3 g6 ?_
    refine ex_il oq_X12_numbers_5 g3 ?_
    refine ex_if oq_X12_numbers_6 (t := 38) rfl rfl (fun (c101 : M.toInt ≤ K.toInt) => ?_) (fun (c101 : ¬ (M.toInt ≤ K.toInt)) => ?_)
    · refine ex_ic oq_X12_numbers_38 (m := 1) (by decide) (fun x102 hx102 => ?_)
      exact ex_retb oq_X12_numbers_39 rfl (by omega) (by omega) (hQ x102 h hT Fh (.inl ⟨acc, p, (by rw [← hst, show k - k = 0 from by omega]; exact zns_0), hp, by omega, hzp, by omega, by omega, fun i hi => hin i (by omega), hot⟩))
    · exfalso; omega
  | succ u ih =>
    intro k L K h acc p hu hk hK hT Fh hp hzp he4 he5 hac hst hin hot g0 g1 g2 g3 g4 g5 g6
    refine ex_ilw oq_X12_numbers_3 g6 ?_
    refine ex_il oq_X12_numbers_5 g3 ?_
    refine ex_if oq_X12_numbers_6 (t := 38) rfl rfl (fun (c101 : M.toInt ≤ K.toInt) => ?_) (fun (c101 : ¬ (M.toInt ≤ K.toInt)) => ?_)
    · exfalso; omega
    · refine ex_al oq_X12_numbers_9 g0 ?_
      refine ex_ilw oq_X12_numbers_10 g4 ?_
      refine ex_ilw oq_X12_numbers_12 g5 ?_
      refine ex_cv oq_X12_numbers_14 (by decide) hT (k := 111) (d := 12) (as := [cv_i lo, cv_i hi]) (stk := []) rfl rfl rfl rfl rfl rfl ⟨rfl, rfl⟩ (R := fun o => ∃ (x : Int32) (hb : cv_H), o = (some (cv_i x), hb) ∧ cw_T G hb ∧ cw_Fr cw_Ds cw_sh kk_X12_number.2.2.2.2.2.1 h hb ∧ zRe t n h hb x (zn t n lo.toInt hi.toInt p) (fun v => ri_at hb 111 11 = v)) (rt_number (t := t) (n := n) (p := p) (fun i hi => by rw [ht i hi, ← hA _ Fh]) hn9 hT (fun i hi => by rw [hB _ Fh]; exact hwr i hi) (by omega) hzp lo hi (fun x hb b1 b2 b3 => ⟨x, hb, rfl, b1, b2, b3⟩)) (fun o ho => ?_)
      obtain ⟨x102, h103, rfl, Th103, Ch103, dx102⟩ := ho
      show cw_X _ _ _ _ _ [cv_i x102] h103
      have Fh103 : cw_Fr cw_Ds cw_sh kk_X12_numbers_1.2.2.2.2.2.1 h0 h103 := cw_Fr_tr Fh (cw_Fr_mono (by decide +kernel) Ch103)
      refine ex_if0 oq_X12_numbers_17 (t := 22) rfl rfl (fun (c104 : ¬ x102.toInt = 0) => ?_) (fun (c104 : ¬ (¬ x102.toInt = 0)) => ?_)
      · obtain ⟨nv, nq, e1, e2, e3, e4, e5, e6, e7⟩ := zRe_yes dx102 (by omega)
        clear dx102
        obtain ⟨y1, y2, y3, y4, y5⟩ := id e4
        have e8 := zn_rg e1
        refine ex_al oq_X12_numbers_22 g1 ?_
        refine ex_il oq_X12_numbers_23 g2 ?_
        refine ex_ilw oq_X12_numbers_24 g6 ?_
        refine ex_add oq_X12_numbers_26 (by omega) (fun x105 hx105 => ?_)
        refine ex_al oq_X12_numbers_27 g0 ?_
        obtain ⟨x106, ax106, rx106, lx106, ux106⟩ := fi_got Th103
        refine ex_gf oq_X12_numbers_28 Th103 (k := 111) (d := 12) rfl rfl ax106 ?_
        refine ex_iw1 oq_X12_numbers_31 Th103 (k := 120) (d := 59) (j := f + k) rfl rfl (by omega) (by omega) ⟨(cw_i32 _).1, (cw_i32 _).2⟩ (fun h107 Th107 wh107 => ?_)
        have Fh107 : cw_Fr cw_Ds cw_sh kk_X12_numbers_1.2.2.2.2.2.1 h0 h107 := cw_Fr_tr Fh103 (cw_Fr_wrr wh107 (k := 120) (d := 59) rfl rfl (by decide +kernel))
        have eh107_4 : ri_at h107 111 4 = ri_at h103 111 4 := ri_ne wh107 (.inl (by decide))
        have eh107_5 : ri_at h107 111 5 = ri_at h103 111 5 := ri_ne wh107 (.inl (by decide))
        have eh107_6 : ri_at h107 111 6 = ri_at h103 111 6 := ri_ne wh107 (.inl (by decide))
        have eh107_7 : ri_at h107 111 7 = ri_at h103 111 7 := ri_ne wh107 (.inl (by decide))
        have eh107_8 : ri_at h107 111 8 = ri_at h103 111 8 := ri_ne wh107 (.inl (by decide))
        have eh107_9 : ri_at h107 111 9 = ri_at h103 111 9 := ri_ne wh107 (.inl (by decide))
        have eh107_10 : ri_at h107 111 10 = ri_at h103 111 10 := ri_ne wh107 (.inl (by decide))
        have eh107_11 : ri_at h107 111 11 = ri_at h103 111 11 := ri_ne wh107 (.inl (by decide))
        refine ex_incA oq_X12_numbers_32 (v := K) (m := 1) g6 (by decide) (by omega) (fun L109 x108 hx108 gL109_6 kL109 => ?_)
        have gL109_0 : cv_get L109 0 = some (cv_r 111) := kL109 0 _ (by decide) (fun q => absurd q (by decide)) g0
        have gL109_1 : cv_get L109 1 = some (cv_r 120) := kL109 1 _ (by decide) (fun q => absurd q (by decide)) g1
        have gL109_2 : cv_get L109 2 = some (cv_i F) := kL109 2 _ (by decide) (fun q => absurd q (by decide)) g2
        have gL109_3 : cv_get L109 3 = some (cv_i M) := kL109 3 _ (by decide) (fun q => absurd q (by decide)) g3
        have gL109_4 : cv_get L109 4 = some (cv_i lo) := kL109 4 _ (by decide) (fun q => absurd q (by decide)) g4
        have gL109_5 : cv_get L109 5 = some (cv_i hi) := kL109 5 _ (by decide) (fun _ => rfl) g5
        refine ex_go oq_X12_numbers_35 (t := 3) rfl rfl ?_
        have hr : ∀ i, ri_at h103 120 i = ri_at h 120 i := fun i => ri_frr Ch103 (k := 120) (d := 59) rfl rfl (by decide +kernel)
        exact ih (k + 1) L109 x108 h107 (acc ++ [nv]) nq (by omega) (by omega) (by omega) Th107 Fh107 e2 ⟨by omega, by omega, by omega, by omega, fun q1 q2 => by have := y5 q1 q2; omega⟩ (by omega) (by omega) (by rw [List.length_append]; simp only [List.length_cons, List.length_nil]; omega) (by rw [← hst, show m - k = (m - (k + 1)) + 1 from by omega]; exact (zns_s e1).symm) (fun i hi => by
          rw [zget_app (by omega), hac]
          by_cases q : i < k
          · rw [if_pos q, ri_ne wh107 (.inr (by omega)), hr]; exact hin i q
          · rw [if_neg q, show i = k from by omega, ri_self wh107]; omega) (fun i hi => by rw [ri_ne wh107 (.inr (by omega)), hr]; exact hot i hi) gL109_0 gL109_1 gL109_2 gL109_3 gL109_4 gL109_5 gL109_6
      · obtain ⟨fc, fa, e1, e2, e3, e4, e5⟩ := zRe_no dx102 (by omega)
        clear dx102
        refine ex_ic oq_X12_numbers_20 (m := 0) (by decide) (fun x110 hx110 => ?_)
        exact ex_retb oq_X12_numbers_21 rfl (by omega) (by omega) (hQ x110 h103 Th103 Fh103 (.inr ⟨_, _, (by rw [← hst, show m - k = (m - (k + 1)) + 1 from by omega]; exact zns_e e1), by omega, by omega, by omega, by omega⟩))
theorem rt_numbersS {h0 : cv_H} {n p : Nat} (hT : cw_T G h0) (hpn : p ≤ n) (hz : zR t n p h0) (ht : ∀ i, i < n → t i = ri_at h0 112 i) (hn9 : n ≤ 900) (hwr : ∀ i, i < 177 → ri_at h0 113 i = pp_words.getD i 0) {F M lo hi : Int32} {f m : Nat} (hF : F.toInt = f) (hM : M.toInt = m) (hlo : 0 ≤ lo.toInt) (hhi : hi.toInt ≤ 9999) (hfm : f + m ≤ 72) (hQ : ∀ (x : Int32) h', cw_T G h' → cw_Fr cw_Ds cw_sh kk_X12_numbers_1.2.2.2.2.2.1 h0 h' → zRe t n h0 h' x (zns t n lo.toInt hi.toInt m p) (fun vs => (∀ i, i < m → ri_at h' 120 (f + i) = vs.getD i 0) ∧ ∀ i, (i < f ∨ f + m ≤ i) → ri_at h' 120 i = ri_at h0 120 i) → Q (some (cv_i x), h')) : cw_X X 170 Q 0 (cv_ent 0 [cv_r 111, cv_r 120, cv_i F, cv_i M, cv_i lo, cv_i hi]) [] h0 := by
  have Fh0 : cw_Fr cw_Ds cw_sh kk_X12_numbers_1.2.2.2.2.2.1 h0 h0 := cw_Fr_refl
  refine ex_ic oq_X12_numbers_0 (m := 0) (by decide) (fun x301 hx301 => ?_)
  refine ex_iswA oq_X12_numbers_1 (fun L302 gL302_6 kL302 => ?_)
  have gL302_0 : cv_get L302 0 = some (cv_r 111) := kL302 0 _ (by decide) (fun q => absurd q (by decide)) rfl
  have gL302_1 : cv_get L302 1 = some (cv_r 120) := kL302 1 _ (by decide) (fun q => absurd q (by decide)) rfl
  have gL302_2 : cv_get L302 2 = some (cv_i F) := kL302 2 _ (by decide) (fun q => absurd q (by decide)) rfl
  have gL302_3 : cv_get L302 3 = some (cv_i M) := kL302 3 _ (by decide) (fun q => absurd q (by decide)) rfl
  have gL302_4 : cv_get L302 4 = some (cv_i lo) := kL302 4 _ (by decide) (fun q => absurd q (by decide)) rfl
  have gL302_5 : cv_get L302 5 = some (cv_i hi) := kL302 5 _ (by decide) (fun _ => rfl) rfl
  exact rt_numbersSL ht hn9 hwr hF hM hlo hhi hfm hQ m 0 L302 x301 h0 [] p (by omega) (by omega) (by omega) hT Fh0 hpn hz (by omega) (by omega) rfl zpre_nil (fun i hi => absurd hi (by omega)) (fun i _ => rfl) gL302_0 gL302_1 gL302_2 gL302_3 gL302_4 gL302_5 gL302_6
theorem rt_numbersHL {h0 : cv_H} {n p0 : Nat} (ht : ∀ i, i < n → t i = ri_at h0 112 i) (hn9 : n ≤ 900) (hwr : ∀ i, i < 177 → ri_at h0 113 i = pp_words.getD i 0) {F M lo hi : Int32} {f m : Nat} (hF : F.toInt = f) (hM : M.toInt = m) (hlo : 0 ≤ lo.toInt) (hhi : hi.toInt ≤ 9999) (hfm : f + m ≤ 128) (hQ : ∀ (x : Int32) h', cw_T G h' → cw_Fr cw_Ds cw_sh mk_gt h0 h' → zRe t n h0 h' x (zns t n lo.toInt hi.toInt m p0) (fun vs => (∀ i, i < m → ri_at h' 119 (f + i) = vs.getD i 0) ∧ ∀ i, (i < f ∨ f + m ≤ i) → ri_at h' 119 i = ri_at h0 119 i) → Q (some (cv_i x), h')) :
    ∀ (u k : Nat) (L : cv_L) (K : Int32) (h : cv_H) (acc : List Int) (p : Nat), m - k = u → k ≤ m → K.toInt = k → cw_T G h → cw_Fr cw_Ds cw_sh mk_gt h0 h → p ≤ n → zR t n p h → ri_at h 111 4 = ri_at h0 111 4 → ri_at h 111 5 = ri_at h0 111 5 → acc.length = k → zpre acc (zns t n lo.toInt hi.toInt (m - k) p) = zns t n lo.toInt hi.toInt m p0 → (∀ i, i < k → ri_at h 119 (f + i) = acc.getD i 0) → (∀ i, (i < f ∨ f + m ≤ i) → ri_at h 119 i = ri_at h0 119 i) → cv_get L 0 = some (cv_r 111) → cv_get L 1 = some (cv_r 119) → cv_get L 2 = some (cv_i F) → cv_get L 3 = some (cv_i M) → cv_get L 4 = some (cv_i lo) → cv_get L 5 = some (cv_i hi) → cv_get L 6 = some (cv_i K) → cw_X X 170 Q 3 L [] h := by
  have hA : ∀ h, cw_Fr cw_Ds cw_sh mk_gt h0 h → ∀ i, ri_at h 112 i = ri_at h0 112 i := fun h F i => ri_frr F (k := 112) (d := 51) rfl rfl (by decide +kernel)
  have hB : ∀ h, cw_Fr cw_Ds cw_sh mk_gt h0 h → ∀ i, ri_at h 113 i = ri_at h0 113 i := fun h F i => ri_frr F (k := 113) (d := 52) rfl rfl (by decide +kernel)
  intro u
  induction u with
  | zero =>
    intro k L K h acc p hu hk hK hT Fh hp hzp he4 he5 hac hst hin hot g0 g1 g2 g3 g4 g5 g6
    have ek : k = m := by omega
    subst ek
    refine ex_ilw oq_X12_numbers_3 g6 ?_
    refine ex_il oq_X12_numbers_5 g3 ?_
    refine ex_if oq_X12_numbers_6 (t := 38) rfl rfl (fun (c101 : M.toInt ≤ K.toInt) => ?_) (fun (c101 : ¬ (M.toInt ≤ K.toInt)) => ?_)
    · refine ex_ic oq_X12_numbers_38 (m := 1) (by decide) (fun x102 hx102 => ?_)
      exact ex_retb oq_X12_numbers_39 rfl (by omega) (by omega) (hQ x102 h hT Fh (.inl ⟨acc, p, (by rw [← hst, show k - k = 0 from by omega]; exact zns_0), hp, by omega, hzp, by omega, by omega, fun i hi => hin i (by omega), hot⟩))
    · exfalso; omega
  | succ u ih =>
    intro k L K h acc p hu hk hK hT Fh hp hzp he4 he5 hac hst hin hot g0 g1 g2 g3 g4 g5 g6
    refine ex_ilw oq_X12_numbers_3 g6 ?_
    refine ex_il oq_X12_numbers_5 g3 ?_
    refine ex_if oq_X12_numbers_6 (t := 38) rfl rfl (fun (c101 : M.toInt ≤ K.toInt) => ?_) (fun (c101 : ¬ (M.toInt ≤ K.toInt)) => ?_)
    · exfalso; omega
    · refine ex_al oq_X12_numbers_9 g0 ?_
      refine ex_ilw oq_X12_numbers_10 g4 ?_
      refine ex_ilw oq_X12_numbers_12 g5 ?_
      refine ex_cv oq_X12_numbers_14 (by decide) hT (k := 111) (d := 12) (as := [cv_i lo, cv_i hi]) (stk := []) rfl rfl rfl rfl rfl rfl ⟨rfl, rfl⟩ (R := fun o => ∃ (x : Int32) (hb : cv_H), o = (some (cv_i x), hb) ∧ cw_T G hb ∧ cw_Fr cw_Ds cw_sh kk_X12_number.2.2.2.2.2.1 h hb ∧ zRe t n h hb x (zn t n lo.toInt hi.toInt p) (fun v => ri_at hb 111 11 = v)) (rt_number (t := t) (n := n) (p := p) (fun i hi => by rw [ht i hi, ← hA _ Fh]) hn9 hT (fun i hi => by rw [hB _ Fh]; exact hwr i hi) (by omega) hzp lo hi (fun x hb b1 b2 b3 => ⟨x, hb, rfl, b1, b2, b3⟩)) (fun o ho => ?_)
      obtain ⟨x102, h103, rfl, Th103, Ch103, dx102⟩ := ho
      show cw_X _ _ _ _ _ [cv_i x102] h103
      have Fh103 : cw_Fr cw_Ds cw_sh mk_gt h0 h103 := cw_Fr_tr Fh (cw_Fr_mono (by decide +kernel) Ch103)
      refine ex_if0 oq_X12_numbers_17 (t := 22) rfl rfl (fun (c104 : ¬ x102.toInt = 0) => ?_) (fun (c104 : ¬ (¬ x102.toInt = 0)) => ?_)
      · obtain ⟨nv, nq, e1, e2, e3, e4, e5, e6, e7⟩ := zRe_yes dx102 (by omega)
        clear dx102
        obtain ⟨y1, y2, y3, y4, y5⟩ := id e4
        have e8 := zn_rg e1
        refine ex_al oq_X12_numbers_22 g1 ?_
        refine ex_il oq_X12_numbers_23 g2 ?_
        refine ex_ilw oq_X12_numbers_24 g6 ?_
        refine ex_add oq_X12_numbers_26 (by omega) (fun x105 hx105 => ?_)
        refine ex_al oq_X12_numbers_27 g0 ?_
        obtain ⟨x106, ax106, rx106, lx106, ux106⟩ := fi_got Th103
        refine ex_gf oq_X12_numbers_28 Th103 (k := 111) (d := 12) rfl rfl ax106 ?_
        refine ex_iw oq_X12_numbers_31 Th103 (k := 119) (d := 58) (j := f + k) rfl rfl (by omega) (by omega) (fun r hr => zy_top hr) (fun h107 Th107 wh107 => ?_)
        have Fh107 : cw_Fr cw_Ds cw_sh mk_gt h0 h107 := cw_Fr_tr Fh103 (cw_Fr_wrr wh107 (k := 119) (d := 58) rfl rfl (by decide +kernel))
        have eh107_4 : ri_at h107 111 4 = ri_at h103 111 4 := ri_ne wh107 (.inl (by decide))
        have eh107_5 : ri_at h107 111 5 = ri_at h103 111 5 := ri_ne wh107 (.inl (by decide))
        have eh107_6 : ri_at h107 111 6 = ri_at h103 111 6 := ri_ne wh107 (.inl (by decide))
        have eh107_7 : ri_at h107 111 7 = ri_at h103 111 7 := ri_ne wh107 (.inl (by decide))
        have eh107_8 : ri_at h107 111 8 = ri_at h103 111 8 := ri_ne wh107 (.inl (by decide))
        have eh107_9 : ri_at h107 111 9 = ri_at h103 111 9 := ri_ne wh107 (.inl (by decide))
        have eh107_10 : ri_at h107 111 10 = ri_at h103 111 10 := ri_ne wh107 (.inl (by decide))
        have eh107_11 : ri_at h107 111 11 = ri_at h103 111 11 := ri_ne wh107 (.inl (by decide))
        refine ex_incA oq_X12_numbers_32 (v := K) (m := 1) g6 (by decide) (by omega) (fun L109 x108 hx108 gL109_6 kL109 => ?_)
        have gL109_0 : cv_get L109 0 = some (cv_r 111) := kL109 0 _ (by decide) (fun q => absurd q (by decide)) g0
        have gL109_1 : cv_get L109 1 = some (cv_r 119) := kL109 1 _ (by decide) (fun q => absurd q (by decide)) g1
        have gL109_2 : cv_get L109 2 = some (cv_i F) := kL109 2 _ (by decide) (fun q => absurd q (by decide)) g2
        have gL109_3 : cv_get L109 3 = some (cv_i M) := kL109 3 _ (by decide) (fun q => absurd q (by decide)) g3
        have gL109_4 : cv_get L109 4 = some (cv_i lo) := kL109 4 _ (by decide) (fun q => absurd q (by decide)) g4
        have gL109_5 : cv_get L109 5 = some (cv_i hi) := kL109 5 _ (by decide) (fun _ => rfl) g5
        refine ex_go oq_X12_numbers_35 (t := 3) rfl rfl ?_
        have hr : ∀ i, ri_at h103 119 i = ri_at h 119 i := fun i => ri_frq Ch103 (k := 119) (d := 58) rfl rfl (by decide) (by decide +kernel)
        exact ih (k + 1) L109 x108 h107 (acc ++ [nv]) nq (by omega) (by omega) (by omega) Th107 Fh107 e2 ⟨by omega, by omega, by omega, by omega, fun q1 q2 => by have := y5 q1 q2; omega⟩ (by omega) (by omega) (by rw [List.length_append]; simp only [List.length_cons, List.length_nil]; omega) (by rw [← hst, show m - k = (m - (k + 1)) + 1 from by omega]; exact (zns_s e1).symm) (fun i hi => by
          rw [zget_app (by omega), hac]
          by_cases q : i < k
          · rw [if_pos q, ri_ne wh107 (.inr (by omega)), hr]; exact hin i q
          · rw [if_neg q, show i = k from by omega, ri_self wh107]; omega) (fun i hi => by rw [ri_ne wh107 (.inr (by omega)), hr]; exact hot i hi) gL109_0 gL109_1 gL109_2 gL109_3 gL109_4 gL109_5 gL109_6
      · obtain ⟨fc, fa, e1, e2, e3, e4, e5⟩ := zRe_no dx102 (by omega)
        clear dx102
        refine ex_ic oq_X12_numbers_20 (m := 0) (by decide) (fun x110 hx110 => ?_)
        exact ex_retb oq_X12_numbers_21 rfl (by omega) (by omega) (hQ x110 h103 Th103 Fh103 (.inr ⟨_, _, (by rw [← hst, show m - k = (m - (k + 1)) + 1 from by omega]; exact zns_e e1), by omega, by omega, by omega, by omega⟩))
theorem rt_numbersH {h0 : cv_H} {n p : Nat} (hT : cw_T G h0) (hpn : p ≤ n) (hz : zR t n p h0) (ht : ∀ i, i < n → t i = ri_at h0 112 i) (hn9 : n ≤ 900) (hwr : ∀ i, i < 177 → ri_at h0 113 i = pp_words.getD i 0) {F M lo hi : Int32} {f m : Nat} (hF : F.toInt = f) (hM : M.toInt = m) (hlo : 0 ≤ lo.toInt) (hhi : hi.toInt ≤ 9999) (hfm : f + m ≤ 128) (hQ : ∀ (x : Int32) h', cw_T G h' → cw_Fr cw_Ds cw_sh mk_gt h0 h' → zRe t n h0 h' x (zns t n lo.toInt hi.toInt m p) (fun vs => (∀ i, i < m → ri_at h' 119 (f + i) = vs.getD i 0) ∧ ∀ i, (i < f ∨ f + m ≤ i) → ri_at h' 119 i = ri_at h0 119 i) → Q (some (cv_i x), h')) : cw_X X 170 Q 0 (cv_ent 0 [cv_r 111, cv_r 119, cv_i F, cv_i M, cv_i lo, cv_i hi]) [] h0 := by
  have Fh0 : cw_Fr cw_Ds cw_sh mk_gt h0 h0 := cw_Fr_refl
  refine ex_ic oq_X12_numbers_0 (m := 0) (by decide) (fun x301 hx301 => ?_)
  refine ex_iswA oq_X12_numbers_1 (fun L302 gL302_6 kL302 => ?_)
  have gL302_0 : cv_get L302 0 = some (cv_r 111) := kL302 0 _ (by decide) (fun q => absurd q (by decide)) rfl
  have gL302_1 : cv_get L302 1 = some (cv_r 119) := kL302 1 _ (by decide) (fun q => absurd q (by decide)) rfl
  have gL302_2 : cv_get L302 2 = some (cv_i F) := kL302 2 _ (by decide) (fun q => absurd q (by decide)) rfl
  have gL302_3 : cv_get L302 3 = some (cv_i M) := kL302 3 _ (by decide) (fun q => absurd q (by decide)) rfl
  have gL302_4 : cv_get L302 4 = some (cv_i lo) := kL302 4 _ (by decide) (fun q => absurd q (by decide)) rfl
  have gL302_5 : cv_get L302 5 = some (cv_i hi) := kL302 5 _ (by decide) (fun _ => rfl) rfl
  exact rt_numbersHL ht hn9 hwr hF hM hlo hhi hfm hQ m 0 L302 x301 h0 [] p (by omega) (by omega) (by omega) hT Fh0 hpn hz (by omega) (by omega) rfl zpre_nil (fun i hi => absurd hi (by omega)) (fun i _ => rfl) gL302_0 gL302_1 gL302_2 gL302_3 gL302_4 gL302_5 gL302_6
end TZ
