/-! ===== the reference reads words: is it one of the words, its letters packed ===== -/
def tw_o : List Nat := [0, 7, 11, 16, 21, 27, 32, 37, 42, 48, 54, 59, 65, 71, 75, 80, 84, 91, 96, 102, 109, 116, 120, 123, 127, 132, 137, 142, 148, 151, 156, 161, 166, 172, 177]
def tw_n : List Nat := [6, 3, 4, 4, 5, 4, 4, 4, 5, 5, 4, 5, 5, 3, 4, 3, 6, 4, 5, 6, 6, 3, 2, 3, 4, 4, 4, 5, 2, 4, 4, 4, 5, 4]
theorem tw_tab : ∀ k, k < 34 → tw_o.getD (k + 1) 0 = tw_o.getD k 0 + tw_n.getD k 0 + 1 ∧ tw_o.getD k 0 + tw_n.getD k 0 < 177 ∧ 1 ≤ tw_n.getD k 0 ∧ tw_n.getD k 0 ≤ 6 ∧ pp_words.getD (tw_o.getD k 0 + tw_n.getD k 0) 0 = 32 ∧ (∀ j, j < tw_n.getD k 0 → 97 ≤ pp_words.getD (tw_o.getD k 0 + j) 0 ∧ pp_words.getD (tw_o.getD k 0 + j) 0 ≤ 122) := by decide +kernel
theorem tw_34 : tw_o.getD 34 0 = 177 := by decide
/-- the word k stands at a up to b -/
def tw_m (t : Nat → Int) (a b k : Nat) : Prop := b = a + tw_n.getD k 0 ∧ ∀ j, j < tw_n.getD k 0 → pp_words.getD (tw_o.getD k 0 + j) 0 = t (a + j)
def tw_dg (k j : Nat) : Int := if j < tw_n.getD k 0 then pp_words.getD (tw_o.getD k 0 + j) 0 - 96 else 0
theorem tw_pk : ∀ k, k < 34 → 33554432 * tw_dg k 0 + 1048576 * tw_dg k 1 + 32768 * tw_dg k 2 + 1024 * tw_dg k 3 + 32 * tw_dg k 4 + tw_dg k 5 = tz_wl.getD k 0 := by decide +kernel
theorem tw_fd : ∀ k, k < 34 → tz_find tz_wl (tz_wl.getD k 0) 0 = k := by decide +kernel
theorem tw_mem : ∀ y ∈ tz_wl, ∃ k, k < 34 ∧ tz_wl.getD k 0 = y := by decide +kernel
theorem tw_dgm {t : Nat → Int} {a b k j : Nat} (h : tw_m t a b k) : tz_dg t a b j = tw_dg k j := by
  unfold tz_dg tw_dg
  obtain ⟨h1, h2⟩ := h
  by_cases q : j < tw_n.getD k 0
  · rw [if_pos (by omega), if_pos q, h2 j q]
  · rw [if_neg (by omega), if_neg q]
theorem tw_yes {t : Nat → Int} {a b k : Nat} (hk : k < 34) (h : tw_m t a b k) : tz_word t a b = k := by
  have hl := (tw_tab k hk).2.2.2.1
  have h1 := h.1
  unfold tz_word tz_pk
  rw [if_pos (by omega), tw_dgm h, tw_dgm h, tw_dgm h, tw_dgm h, tw_dgm h, tw_dgm h, tw_pk k hk, tw_fd k hk]
theorem tw_dgb {t : Nat → Int} {a b j : Nat} (hl : ∀ i, a ≤ i → i < b → 97 ≤ t i ∧ t i ≤ 122) : (a + j < b → 1 ≤ tz_dg t a b j) ∧ (b ≤ a + j → tz_dg t a b j = 0) ∧ 0 ≤ tz_dg t a b j ∧ tz_dg t a b j ≤ 26 := by
  unfold tz_dg
  by_cases q : a + j < b
  · have := hl (a + j) (by omega) q
    rw [if_pos q]
    omega
  · rw [if_neg q]
    omega
theorem tw_dgw {k j : Nat} (hk : k < 34) : (j < tw_n.getD k 0 → 1 ≤ tw_dg k j) ∧ (tw_n.getD k 0 ≤ j → tw_dg k j = 0) ∧ 0 ≤ tw_dg k j ∧ tw_dg k j ≤ 26 := by
  unfold tw_dg
  by_cases q : j < tw_n.getD k 0
  · have := (tw_tab k hk).2.2.2.2.2 j q
    rw [if_pos q]
    omega
  · rw [if_neg q]
    omega
theorem tw_six {a0 a1 a2 a3 a4 a5 b0 b1 b2 b3 b4 b5 : Int} (h0 : 0 ≤ a0 ∧ a0 ≤ 26) (h1 : 0 ≤ a1 ∧ a1 ≤ 26) (h2 : 0 ≤ a2 ∧ a2 ≤ 26) (h3 : 0 ≤ a3 ∧ a3 ≤ 26) (h4 : 0 ≤ a4 ∧ a4 ≤ 26) (h5 : 0 ≤ a5 ∧ a5 ≤ 26) (g0 : 0 ≤ b0 ∧ b0 ≤ 26) (g1 : 0 ≤ b1 ∧ b1 ≤ 26) (g2 : 0 ≤ b2 ∧ b2 ≤ 26) (g3 : 0 ≤ b3 ∧ b3 ≤ 26) (g4 : 0 ≤ b4 ∧ b4 ≤ 26) (g5 : 0 ≤ b5 ∧ b5 ≤ 26)
    (e : 33554432 * a0 + 1048576 * a1 + 32768 * a2 + 1024 * a3 + 32 * a4 + a5 = 33554432 * b0 + 1048576 * b1 + 32768 * b2 + 1024 * b3 + 32 * b4 + b5) : a0 = b0 ∧ a1 = b1 ∧ a2 = b2 ∧ a3 = b3 ∧ a4 = b4 ∧ a5 = b5 := by
  have e0 : a0 = b0 := by omega
  subst e0
  have e1 : a1 = b1 := by omega
  subst e1
  have e2 : a2 = b2 := by omega
  subst e2
  have e3 : a3 = b3 := by omega
  subst e3
  have e4 : a4 = b4 := by omega
  subst e4
  omega
theorem tw_back {t : Nat → Int} {a b k : Nat} (hk : k < 34) (h6 : b ≤ a + 6) (hab : a ≤ b) (hl : ∀ i, a ≤ i → i < b → 97 ≤ t i ∧ t i ≤ 122) (e : tz_pk t a b = tz_wl.getD k 0) : tw_m t a b k := by
  have hn := (tw_tab k hk).2.2.2.1
  have D : ∀ j, (a + j < b → 1 ≤ tz_dg t a b j) ∧ (b ≤ a + j → tz_dg t a b j = 0) ∧ 0 ≤ tz_dg t a b j ∧ tz_dg t a b j ≤ 26 := fun j => tw_dgb hl
  have E : ∀ j, (j < tw_n.getD k 0 → 1 ≤ tw_dg k j) ∧ (tw_n.getD k 0 ≤ j → tw_dg k j = 0) ∧ 0 ≤ tw_dg k j ∧ tw_dg k j ≤ 26 := fun j => tw_dgw hk
  rw [← tw_pk k hk] at e
  unfold tz_pk at e
  obtain ⟨e0, e1, e2, e3, e4, e5⟩ := tw_six (D 0).2.2 (D 1).2.2 (D 2).2.2 (D 3).2.2 (D 4).2.2 (D 5).2.2 (E 0).2.2 (E 1).2.2 (E 2).2.2 (E 3).2.2 (E 4).2.2 (E 5).2.2 e
  have ed : ∀ j, j < 6 → tz_dg t a b j = tw_dg k j := by
    intro j hj
    match j, hj with
    | 0, _ => exact e0
    | 1, _ => exact e1
    | 2, _ => exact e2
    | 3, _ => exact e3
    | 4, _ => exact e4
    | 5, _ => exact e5
    | j + 6, hj => omega
  have hb : b = a + tw_n.getD k 0 := by
    rcases Nat.lt_trichotomy (b - a) (tw_n.getD k 0) with q | q | q
    · have q1 := ed (b - a) (by omega)
      have q2 := (D (b - a)).2.1 (by omega)
      have q3 := (E (b - a)).1 q
      omega
    · omega
    · have q1 := ed (tw_n.getD k 0) (by omega)
      have q2 := (D (tw_n.getD k 0)).1 (by omega)
      have q3 := (E (tw_n.getD k 0)).2.1 (Nat.le_refl _)
      omega
  refine ⟨hb, fun j hj => ?_⟩
  have q1 := ed j (by omega)
  unfold tz_dg tw_dg at q1
  rw [if_pos (by omega), if_pos hj] at q1
  omega
theorem tw_no {t : Nat → Int} {a b : Nat} (hab : a ≤ b) (hl : ∀ i, a ≤ i → i < b → 97 ≤ t i ∧ t i ≤ 122) (h : ∀ k, k < 34 → ¬ tw_m t a b k) : tz_word t a b = -1 := by
  unfold tz_word
  split
  · rename_i q
    refine tz_fn _ 0 (fun hm => ?_)
    obtain ⟨k, h1, h2⟩ := tw_mem _ hm
    exact h k h1 (tw_back h1 q hab hl h2.symm)
  · rfl
section TZ
variable {G : Int} {X : cv_X} {Q : cv_O → Prop} {t : Nat → Int}
theorem rt_len {h : cv_H} {n : Nat} (ht : ∀ i, i < n → t i = ri_at h 112 i) (hwr : ∀ i, i < 177 → ri_at h 113 i = pp_words.getD i 0) (hT : cw_T G h) (hn9 : n ≤ 900) {A B K O : Int32} {a b k : Nat} (hA : A.toInt = a) (hB : B.toInt = b) (hab : a ≤ b) (hbn : b ≤ n) (hK0 : K.toInt = k) (hk : k < 34) (hO : O.toInt = tw_o.getD k 0) (hK : ∀ (L : cv_L) (x : Int32), x.toInt = tw_n.getD k 0 → cv_get L 0 = some (cv_r 111) → cv_get L 1 = some (cv_i A) → cv_get L 2 = some (cv_i B) → cv_get L 3 = some (cv_i K) → cv_get L 4 = some (cv_i O) → cv_get L 5 = some (cv_i x) → cw_X X 160 Q 39 L [] h) :
    ∀ (f m : Nat) (L : cv_L) (x : Int32), tw_n.getD k 0 - m = f → m ≤ tw_n.getD k 0 → x.toInt = m → cv_get L 0 = some (cv_r 111) → cv_get L 1 = some (cv_i A) → cv_get L 2 = some (cv_i B) → cv_get L 3 = some (cv_i K) → cv_get L 4 = some (cv_i O) → cv_get L 5 = some (cv_i x) → cw_X X 160 Q 18 L [] h := by
  have tb := tw_tab k hk
  intro f
  induction f with
  | zero =>
    intro m L x hf hm hx g0 g1 g2 g3 g4 g5
    have em : m = tw_n.getD k 0 := by omega
    have hw := hwr (tw_o.getD k 0 + m) (by omega)
    rw [em] at hw
    have hw2 := tb.2.2.2.2.1
    rw [← em] at hw hw2
    refine ex_al oq_X12_wordAt_18 g0 ?_
    refine ex_gf oq_X12_wordAt_19 hT (k := 111) (d := 12) rfl rfl (fr_words hT) ?_
    refine ex_ilw oq_X12_wordAt_22 g4 ?_
    refine ex_ilw oq_X12_wordAt_24 g5 ?_
    refine ex_add oq_X12_wordAt_26 (by omega) (fun x101 hx101 => ?_)
    refine ex_ia1 oq_X12_wordAt_27 hT (k := 113) (d := 52) (j := tw_o.getD k 0 + m) rfl rfl (by omega) (by omega) (fun x102 hx102 lx102 ux102 => ?_)
    refine ex_bi oq_X12_wordAt_28 (m := 32) (by decide) (fun x103 hx103 => ?_)
    refine ex_if oq_X12_wordAt_30 (t := 39) rfl rfl (fun (c104 : x102.toInt = x103.toInt) => ?_) (fun (c104 : ¬ (x102.toInt = x103.toInt)) => ?_)
    · exact hK L x (by omega) g0 g1 g2 g3 g4 g5
    · exfalso; omega
  | succ f ih =>
    intro m L x hf hm hx g0 g1 g2 g3 g4 g5
    have hw := hwr (tw_o.getD k 0 + m) (by omega)
    have hw2 := tb.2.2.2.2.2 m (by omega)
    refine ex_al oq_X12_wordAt_18 g0 ?_
    refine ex_gf oq_X12_wordAt_19 hT (k := 111) (d := 12) rfl rfl (fr_words hT) ?_
    refine ex_ilw oq_X12_wordAt_22 g4 ?_
    refine ex_ilw oq_X12_wordAt_24 g5 ?_
    refine ex_add oq_X12_wordAt_26 (by omega) (fun x101 hx101 => ?_)
    refine ex_ia1 oq_X12_wordAt_27 hT (k := 113) (d := 52) (j := tw_o.getD k 0 + m) rfl rfl (by omega) (by omega) (fun x102 hx102 lx102 ux102 => ?_)
    refine ex_bi oq_X12_wordAt_28 (m := 32) (by decide) (fun x103 hx103 => ?_)
    refine ex_if oq_X12_wordAt_30 (t := 39) rfl rfl (fun (c104 : x102.toInt = x103.toInt) => ?_) (fun (c104 : ¬ (x102.toInt = x103.toInt)) => ?_)
    · exfalso; omega
    · refine ex_incA oq_X12_wordAt_33 (v := x) (m := 1) g5 (by decide) (by omega) (fun L106 x105 hx105 gL106_5 kL106 => ?_)
      have gL106_0 : cv_get L106 0 = some (cv_r 111) := kL106 0 _ (by decide) (fun q => absurd q (by decide)) g0
      have gL106_1 : cv_get L106 1 = some (cv_i A) := kL106 1 _ (by decide) (fun q => absurd q (by decide)) g1
      have gL106_2 : cv_get L106 2 = some (cv_i B) := kL106 2 _ (by decide) (fun q => absurd q (by decide)) g2
      have gL106_3 : cv_get L106 3 = some (cv_i K) := kL106 3 _ (by decide) (fun q => absurd q (by decide)) g3
      have gL106_4 : cv_get L106 4 = some (cv_i O) := kL106 4 _ (by decide) (fun _ => rfl) g4
      refine ex_go oq_X12_wordAt_36 (t := 18) rfl rfl ?_
      exact ih (m + 1) L106 x105 (by omega) (by omega) (by omega) gL106_0 gL106_1 gL106_2 gL106_3 gL106_4 gL106_5
theorem rt_cmp {h : cv_H} {n : Nat} (ht : ∀ i, i < n → t i = ri_at h 112 i) (hwr : ∀ i, i < 177 → ri_at h 113 i = pp_words.getD i 0) (hT : cw_T G h) (hn9 : n ≤ 900) {A B K O : Int32} {a b k : Nat} (hA : A.toInt = a) (hB : B.toInt = b) (hab : a ≤ b) (hbn : b ≤ n) (hK0 : K.toInt = k) (hk : k < 34) (hO : O.toInt = tw_o.getD k 0) {N : Int32} (hN : N.toInt = tw_n.getD k 0) (hK : ∀ (L : cv_L) (y : Int32), (y.toInt = 1 ∧ tw_m t a b k ∨ y.toInt = 0 ∧ ¬ tw_m t a b k) → cv_get L 0 = some (cv_r 111) → cv_get L 1 = some (cv_i A) → cv_get L 2 = some (cv_i B) → cv_get L 3 = some (cv_i K) → cv_get L 4 = some (cv_i O) → cv_get L 5 = some (cv_i N) → cv_get L 6 = some (cv_i y) → cw_X X 160 Q 104 L [] h) :
    ∀ (f i : Nat) (L : cv_L) (x y : Int32), tw_n.getD k 0 - i = f → i ≤ tw_n.getD k 0 → x.toInt = i → (y.toInt = 1 ∧ b = a + tw_n.getD k 0 ∧ (∀ j, j < i → pp_words.getD (tw_o.getD k 0 + j) 0 = t (a + j)) ∨ y.toInt = 0 ∧ ¬ tw_m t a b k) → cv_get L 0 = some (cv_r 111) → cv_get L 1 = some (cv_i A) → cv_get L 2 = some (cv_i B) → cv_get L 3 = some (cv_i K) → cv_get L 4 = some (cv_i O) → cv_get L 5 = some (cv_i N) → cv_get L 6 = some (cv_i y) → cv_get L 7 = some (cv_i x) → cw_X X 160 Q 57 L [] h := by
  have tb := tw_tab k hk
  intro f
  induction f with
  | zero =>
    intro i L x y hf hi hx hiv g0 g1 g2 g3 g4 g5 g6 g7
    have ei : i = tw_n.getD k 0 := by omega
    rcases hiv with ⟨hy, hb2, hin⟩ | ⟨hy, hnm⟩
    · have hm : tw_m t a b k := ⟨hb2, fun j hj => hin j (by omega)⟩
      refine ex_ilw oq_X12_wordAt_57 g7 ?_
      refine ex_ilw oq_X12_wordAt_59 g5 ?_
      refine ex_if oq_X12_wordAt_61 (t := 104) rfl rfl (fun (c301 : N.toInt ≤ x.toInt) => ?_) (fun (c301 : ¬ (N.toInt ≤ x.toInt)) => ?_)
      · exact hK L y (.inl ⟨hy, hm⟩) g0 g1 g2 g3 g4 g5 g6
      · exfalso; omega
    · refine ex_ilw oq_X12_wordAt_57 g7 ?_
      refine ex_ilw oq_X12_wordAt_59 g5 ?_
      refine ex_if oq_X12_wordAt_61 (t := 104) rfl rfl (fun (c301 : N.toInt ≤ x.toInt) => ?_) (fun (c301 : ¬ (N.toInt ≤ x.toInt)) => ?_)
      · exact hK L y (.inr ⟨hy, hnm⟩) g0 g1 g2 g3 g4 g5 g6
      · exfalso; omega
  | succ f ih =>
    intro i L x y hf hi hx hiv g0 g1 g2 g3 g4 g5 g6 g7
    rcases hiv with ⟨hy, hb2, hin⟩ | ⟨hy, hnm⟩
    · have hw := hwr (tw_o.getD k 0 + i) (by omega)
      have hti := ht (a + i) (by omega)
      refine ex_ilw oq_X12_wordAt_57 g7 ?_
      refine ex_ilw oq_X12_wordAt_59 g5 ?_
      refine ex_if oq_X12_wordAt_61 (t := 104) rfl rfl (fun (c301 : N.toInt ≤ x.toInt) => ?_) (fun (c301 : ¬ (N.toInt ≤ x.toInt)) => ?_)
      · exfalso; omega
      · refine ex_ilw oq_X12_wordAt_64 g6 ?_
        refine ex_if0 oq_X12_wordAt_66 (t := 104) rfl rfl (fun (c302 : y.toInt = 0) => ?_) (fun (c302 : ¬ (y.toInt = 0)) => ?_)
        · exfalso; omega
        · refine ex_al oq_X12_wordAt_69 g0 ?_
          refine ex_gf oq_X12_wordAt_70 hT (k := 111) (d := 12) rfl rfl (fr_words hT) ?_
          refine ex_ilw oq_X12_wordAt_73 g4 ?_
          refine ex_ilw oq_X12_wordAt_75 g7 ?_
          refine ex_add oq_X12_wordAt_77 (by omega) (fun x303 hx303 => ?_)
          refine ex_ia1 oq_X12_wordAt_78 hT (k := 113) (d := 52) (j := tw_o.getD k 0 + i) rfl rfl (by omega) (by omega) (fun x304 hx304 lx304 ux304 => ?_)
          refine ex_al oq_X12_wordAt_79 g0 ?_
          refine ex_gf oq_X12_wordAt_80 hT (k := 111) (d := 12) rfl rfl (fr_tape hT) ?_
          refine ex_il oq_X12_wordAt_83 g1 ?_
          refine ex_ilw oq_X12_wordAt_84 g7 ?_
          refine ex_add oq_X12_wordAt_86 (by omega) (fun x305 hx305 => ?_)
          refine ex_ia1 oq_X12_wordAt_87 hT (k := 112) (d := 51) (j := a + i) rfl rfl (by omega) (by omega) (fun x306 hx306 lx306 ux306 => ?_)
          refine ex_if oq_X12_wordAt_88 (t := 95) rfl rfl (fun (c307 : ¬ x304.toInt = x306.toInt) => ?_) (fun (c307 : ¬ (¬ x304.toInt = x306.toInt)) => ?_)
          · refine ex_ic oq_X12_wordAt_95 (m := 0) (by decide) (fun x308 hx308 => ?_)
            refine ex_iswA oq_X12_wordAt_96 (fun L309 gL309_6 kL309 => ?_)
            have gL309_0 : cv_get L309 0 = some (cv_r 111) := kL309 0 _ (by decide) (fun q => absurd q (by decide)) g0
            have gL309_1 : cv_get L309 1 = some (cv_i A) := kL309 1 _ (by decide) (fun q => absurd q (by decide)) g1
            have gL309_2 : cv_get L309 2 = some (cv_i B) := kL309 2 _ (by decide) (fun q => absurd q (by decide)) g2
            have gL309_3 : cv_get L309 3 = some (cv_i K) := kL309 3 _ (by decide) (fun q => absurd q (by decide)) g3
            have gL309_4 : cv_get L309 4 = some (cv_i O) := kL309 4 _ (by decide) (fun q => absurd q (by decide)) g4
            have gL309_5 : cv_get L309 5 = some (cv_i N) := kL309 5 _ (by decide) (fun _ => rfl) g5
            have gL309_7 : cv_get L309 7 = some (cv_i x) := kL309 7 _ (by decide) (fun q => absurd q (by decide)) g7
            refine ex_incA oq_X12_wordAt_98 (v := x) (m := 1) gL309_7 (by decide) (by omega) (fun L311 x310 hx310 gL311_7 kL311 => ?_)
            have gL311_6 : cv_get L311 6 = some (cv_i x308) := kL311 6 _ (by decide) (fun _ => rfl) gL309_6
            have gL311_0 : cv_get L311 0 = some (cv_r 111) := kL311 0 _ (by decide) (fun q => absurd q (by decide)) gL309_0
            have gL311_1 : cv_get L311 1 = some (cv_i A) := kL311 1 _ (by decide) (fun q => absurd q (by decide)) gL309_1
            have gL311_2 : cv_get L311 2 = some (cv_i B) := kL311 2 _ (by decide) (fun q => absurd q (by decide)) gL309_2
            have gL311_3 : cv_get L311 3 = some (cv_i K) := kL311 3 _ (by decide) (fun q => absurd q (by decide)) gL309_3
            have gL311_4 : cv_get L311 4 = some (cv_i O) := kL311 4 _ (by decide) (fun q => absurd q (by decide)) gL309_4
            have gL311_5 : cv_get L311 5 = some (cv_i N) := kL311 5 _ (by decide) (fun q => absurd q (by decide)) gL309_5
            refine ex_go oq_X12_wordAt_101 (t := 57) rfl rfl ?_
            exact ih (i + 1) L311 x310 x308 (by omega) (by omega) (by omega) (.inr ⟨by omega, fun hm => by
                have := hm.2 i (by omega)
                omega⟩) gL311_0 gL311_1 gL311_2 gL311_3 gL311_4 gL311_5 gL311_6 gL311_7
          · refine ex_ic oq_X12_wordAt_91 (m := 1) (by decide) (fun x312 hx312 => ?_)
            refine ex_go oq_X12_wordAt_92 (t := 96) rfl rfl ?_
            refine ex_iswA oq_X12_wordAt_96 (fun L313 gL313_6 kL313 => ?_)
            have gL313_0 : cv_get L313 0 = some (cv_r 111) := kL313 0 _ (by decide) (fun q => absurd q (by decide)) g0
            have gL313_1 : cv_get L313 1 = some (cv_i A) := kL313 1 _ (by decide) (fun q => absurd q (by decide)) g1
            have gL313_2 : cv_get L313 2 = some (cv_i B) := kL313 2 _ (by decide) (fun q => absurd q (by decide)) g2
            have gL313_3 : cv_get L313 3 = some (cv_i K) := kL313 3 _ (by decide) (fun q => absurd q (by decide)) g3
            have gL313_4 : cv_get L313 4 = some (cv_i O) := kL313 4 _ (by decide) (fun q => absurd q (by decide)) g4
            have gL313_5 : cv_get L313 5 = some (cv_i N) := kL313 5 _ (by decide) (fun _ => rfl) g5
            have gL313_7 : cv_get L313 7 = some (cv_i x) := kL313 7 _ (by decide) (fun q => absurd q (by decide)) g7
            refine ex_incA oq_X12_wordAt_98 (v := x) (m := 1) gL313_7 (by decide) (by omega) (fun L315 x314 hx314 gL315_7 kL315 => ?_)
            have gL315_6 : cv_get L315 6 = some (cv_i x312) := kL315 6 _ (by decide) (fun _ => rfl) gL313_6
            have gL315_0 : cv_get L315 0 = some (cv_r 111) := kL315 0 _ (by decide) (fun q => absurd q (by decide)) gL313_0
            have gL315_1 : cv_get L315 1 = some (cv_i A) := kL315 1 _ (by decide) (fun q => absurd q (by decide)) gL313_1
            have gL315_2 : cv_get L315 2 = some (cv_i B) := kL315 2 _ (by decide) (fun q => absurd q (by decide)) gL313_2
            have gL315_3 : cv_get L315 3 = some (cv_i K) := kL315 3 _ (by decide) (fun q => absurd q (by decide)) gL313_3
            have gL315_4 : cv_get L315 4 = some (cv_i O) := kL315 4 _ (by decide) (fun q => absurd q (by decide)) gL313_4
            have gL315_5 : cv_get L315 5 = some (cv_i N) := kL315 5 _ (by decide) (fun q => absurd q (by decide)) gL313_5
            refine ex_go oq_X12_wordAt_101 (t := 57) rfl rfl ?_
            exact ih (i + 1) L315 x314 x312 (by omega) (by omega) (by omega) (.inl ⟨by omega, by omega, fun j hj => by
                by_cases q : j < i
                · exact hin j q
                · have eji : j = i := by omega
                  rw [eji]; omega⟩) gL315_0 gL315_1 gL315_2 gL315_3 gL315_4 gL315_5 gL315_6 gL315_7
    · refine ex_ilw oq_X12_wordAt_57 g7 ?_
      refine ex_ilw oq_X12_wordAt_59 g5 ?_
      refine ex_if oq_X12_wordAt_61 (t := 104) rfl rfl (fun (c301 : N.toInt ≤ x.toInt) => ?_) (fun (c301 : ¬ (N.toInt ≤ x.toInt)) => ?_)
      · exfalso; omega
      · refine ex_ilw oq_X12_wordAt_64 g6 ?_
        refine ex_if0 oq_X12_wordAt_66 (t := 104) rfl rfl (fun (c302 : y.toInt = 0) => ?_) (fun (c302 : ¬ (y.toInt = 0)) => ?_)
        · exact hK L y (.inr ⟨hy, hnm⟩) g0 g1 g2 g3 g4 g5 g6
        · exfalso; omega
theorem rt_104 {h : cv_H} {n : Nat} (ht : ∀ i, i < n → t i = ri_at h 112 i) (hwr : ∀ i, i < 177 → ri_at h 113 i = pp_words.getD i 0) (hT : cw_T G h) (hn9 : n ≤ 900) {A B K O : Int32} {a b k : Nat} (hA : A.toInt = a) (hB : B.toInt = b) (hab : a ≤ b) (hbn : b ≤ n) (hK0 : K.toInt = k) (hk : k < 34) (hO : O.toInt = tw_o.getD k 0) {N : Int32} (hN : N.toInt = tw_n.getD k 0) (hyes : ∀ x : Int32, x.toInt = k → tw_m t a b k → Q (some (cv_i x), h)) (hnext : ∀ (L : cv_L) (K O : Int32), K.toInt = k + 1 → O.toInt = tw_o.getD (k + 1) 0 → ¬ tw_m t a b k → cv_get L 0 = some (cv_r 111) → cv_get L 1 = some (cv_i A) → cv_get L 2 = some (cv_i B) → cv_get L 3 = some (cv_i K) → cv_get L 4 = some (cv_i O) → cw_X X 160 Q 5 L [] h) {L : cv_L} {y : Int32} (hp : (y.toInt = 1 ∧ tw_m t a b k ∨ y.toInt = 0 ∧ ¬ tw_m t a b k)) (g0 : cv_get L 0 = some (cv_r 111)) (g1 : cv_get L 1 = some (cv_i A)) (g2 : cv_get L 2 = some (cv_i B)) (g3 : cv_get L 3 = some (cv_i K)) (g4 : cv_get L 4 = some (cv_i O)) (g5 : cv_get L 5 = some (cv_i N)) (g6 : cv_get L 6 = some (cv_i y)) : cw_X X 160 Q 104 L [] h := by
  have tb := tw_tab k hk
  refine ex_ilw oq_X12_wordAt_104 g6 ?_
  refine ex_if0 oq_X12_wordAt_106 (t := 111) rfl rfl (fun (c701 : y.toInt = 0) => ?_) (fun (c701 : ¬ (y.toInt = 0)) => ?_)
  · refine ex_ilw oq_X12_wordAt_111 g4 ?_
    refine ex_ilw oq_X12_wordAt_113 g5 ?_
    refine ex_ic oq_X12_wordAt_115 (m := 1) (by decide) (fun x702 hx702 => ?_)
    refine ex_add oq_X12_wordAt_116 (by omega) (fun x703 hx703 => ?_)
    refine ex_add oq_X12_wordAt_117 (by omega) (fun x704 hx704 => ?_)
    refine ex_iswA oq_X12_wordAt_118 (fun L705 gL705_4 kL705 => ?_)
    have gL705_0 : cv_get L705 0 = some (cv_r 111) := kL705 0 _ (by decide) (fun q => absurd q (by decide)) g0
    have gL705_1 : cv_get L705 1 = some (cv_i A) := kL705 1 _ (by decide) (fun q => absurd q (by decide)) g1
    have gL705_2 : cv_get L705 2 = some (cv_i B) := kL705 2 _ (by decide) (fun q => absurd q (by decide)) g2
    have gL705_3 : cv_get L705 3 = some (cv_i K) := kL705 3 _ (by decide) (fun _ => rfl) g3
    have gL705_5 : cv_get L705 5 = some (cv_i N) := kL705 5 _ (by decide) (fun q => absurd q (by decide)) g5
    have gL705_6 : cv_get L705 6 = some (cv_i y) := kL705 6 _ (by decide) (fun q => absurd q (by decide)) g6
    refine ex_incA oq_X12_wordAt_120 (v := K) (m := 1) gL705_3 (by decide) (by omega) (fun L707 x706 hx706 gL707_3 kL707 => ?_)
    have gL707_4 : cv_get L707 4 = some (cv_i x704) := kL707 4 _ (by decide) (fun q => absurd q (by decide)) gL705_4
    have gL707_0 : cv_get L707 0 = some (cv_r 111) := kL707 0 _ (by decide) (fun q => absurd q (by decide)) gL705_0
    have gL707_1 : cv_get L707 1 = some (cv_i A) := kL707 1 _ (by decide) (fun q => absurd q (by decide)) gL705_1
    have gL707_2 : cv_get L707 2 = some (cv_i B) := kL707 2 _ (by decide) (fun _ => rfl) gL705_2
    have gL707_5 : cv_get L707 5 = some (cv_i N) := kL707 5 _ (by decide) (fun q => absurd q (by decide)) gL705_5
    have gL707_6 : cv_get L707 6 = some (cv_i y) := kL707 6 _ (by decide) (fun q => absurd q (by decide)) gL705_6
    refine ex_go oq_X12_wordAt_123 (t := 5) rfl rfl ?_
    exact hnext L707 x706 x704 (by omega) (by omega) (by rcases hp with ⟨q1, q2⟩ | ⟨q1, q2⟩; exact absurd q1 (by omega); exact q2) gL707_0 gL707_1 gL707_2 gL707_3 gL707_4
  · refine ex_il oq_X12_wordAt_109 g3 ?_
    exact ex_reti oq_X12_wordAt_110 rfl (hyes K (by omega) (by rcases hp with ⟨q1, q2⟩ | ⟨q1, q2⟩; exact q2; exact absurd q1 (by omega)))
theorem rt_39 {h : cv_H} {n : Nat} (ht : ∀ i, i < n → t i = ri_at h 112 i) (hwr : ∀ i, i < 177 → ri_at h 113 i = pp_words.getD i 0) (hT : cw_T G h) (hn9 : n ≤ 900) {A B K O : Int32} {a b k : Nat} (hA : A.toInt = a) (hB : B.toInt = b) (hab : a ≤ b) (hbn : b ≤ n) (hK0 : K.toInt = k) (hk : k < 34) (hO : O.toInt = tw_o.getD k 0) {N : Int32} (hN : N.toInt = tw_n.getD k 0) (hyes : ∀ x : Int32, x.toInt = k → tw_m t a b k → Q (some (cv_i x), h)) (hnext : ∀ (L : cv_L) (K O : Int32), K.toInt = k + 1 → O.toInt = tw_o.getD (k + 1) 0 → ¬ tw_m t a b k → cv_get L 0 = some (cv_r 111) → cv_get L 1 = some (cv_i A) → cv_get L 2 = some (cv_i B) → cv_get L 3 = some (cv_i K) → cv_get L 4 = some (cv_i O) → cw_X X 160 Q 5 L [] h) {L : cv_L} (g0 : cv_get L 0 = some (cv_r 111)) (g1 : cv_get L 1 = some (cv_i A)) (g2 : cv_get L 2 = some (cv_i B)) (g3 : cv_get L 3 = some (cv_i K)) (g4 : cv_get L 4 = some (cv_i O)) (g5 : cv_get L 5 = some (cv_i N)) : cw_X X 160 Q 39 L [] h := by
  have tb := tw_tab k hk
  refine ex_ilw oq_X12_wordAt_39 g5 ?_
  refine ex_il oq_X12_wordAt_41 g2 ?_
  refine ex_il oq_X12_wordAt_42 g1 ?_
  refine ex_sub oq_X12_wordAt_43 (by omega) (fun x601 hx601 => ?_)
  refine ex_if oq_X12_wordAt_44 (t := 51) rfl rfl (fun (c602 : ¬ N.toInt = x601.toInt) => ?_) (fun (c602 : ¬ (¬ N.toInt = x601.toInt)) => ?_)
  · refine ex_ic oq_X12_wordAt_51 (m := 0) (by decide) (fun x603 hx603 => ?_)
    refine ex_iswA oq_X12_wordAt_52 (fun L604 gL604_6 kL604 => ?_)
    have gL604_0 : cv_get L604 0 = some (cv_r 111) := kL604 0 _ (by decide) (fun q => absurd q (by decide)) g0
    have gL604_1 : cv_get L604 1 = some (cv_i A) := kL604 1 _ (by decide) (fun q => absurd q (by decide)) g1
    have gL604_2 : cv_get L604 2 = some (cv_i B) := kL604 2 _ (by decide) (fun q => absurd q (by decide)) g2
    have gL604_3 : cv_get L604 3 = some (cv_i K) := kL604 3 _ (by decide) (fun q => absurd q (by decide)) g3
    have gL604_4 : cv_get L604 4 = some (cv_i O) := kL604 4 _ (by decide) (fun q => absurd q (by decide)) g4
    have gL604_5 : cv_get L604 5 = some (cv_i N) := kL604 5 _ (by decide) (fun _ => rfl) g5
    refine ex_ic oq_X12_wordAt_54 (m := 0) (by decide) (fun x605 hx605 => ?_)
    refine ex_iswA oq_X12_wordAt_55 (fun L606 gL606_7 kL606 => ?_)
    have gL606_6 : cv_get L606 6 = some (cv_i x603) := kL606 6 _ (by decide) (fun _ => rfl) gL604_6
    have gL606_0 : cv_get L606 0 = some (cv_r 111) := kL606 0 _ (by decide) (fun q => absurd q (by decide)) gL604_0
    have gL606_1 : cv_get L606 1 = some (cv_i A) := kL606 1 _ (by decide) (fun q => absurd q (by decide)) gL604_1
    have gL606_2 : cv_get L606 2 = some (cv_i B) := kL606 2 _ (by decide) (fun q => absurd q (by decide)) gL604_2
    have gL606_3 : cv_get L606 3 = some (cv_i K) := kL606 3 _ (by decide) (fun q => absurd q (by decide)) gL604_3
    have gL606_4 : cv_get L606 4 = some (cv_i O) := kL606 4 _ (by decide) (fun q => absurd q (by decide)) gL604_4
    have gL606_5 : cv_get L606 5 = some (cv_i N) := kL606 5 _ (by decide) (fun q => absurd q (by decide)) gL604_5
    exact rt_cmp ht hwr hT hn9 hA hB hab hbn hK0 hk hO hN (fun L y hp g0 g1 g2 g3 g4 g5 g6 => rt_104 ht hwr hT hn9 hA hB hab hbn hK0 hk hO hN hyes hnext hp g0 g1 g2 g3 g4 g5 g6) (tw_n.getD k 0) 0 L606 x605 x603 (by omega) (by omega) (by omega) (.inr ⟨by omega, fun hm => by have := hm.1; omega⟩) gL606_0 gL606_1 gL606_2 gL606_3 gL606_4 gL606_5 gL606_6 gL606_7
  · refine ex_ic oq_X12_wordAt_47 (m := 1) (by decide) (fun x607 hx607 => ?_)
    refine ex_go oq_X12_wordAt_48 (t := 52) rfl rfl ?_
    refine ex_iswA oq_X12_wordAt_52 (fun L608 gL608_6 kL608 => ?_)
    have gL608_0 : cv_get L608 0 = some (cv_r 111) := kL608 0 _ (by decide) (fun q => absurd q (by decide)) g0
    have gL608_1 : cv_get L608 1 = some (cv_i A) := kL608 1 _ (by decide) (fun q => absurd q (by decide)) g1
    have gL608_2 : cv_get L608 2 = some (cv_i B) := kL608 2 _ (by decide) (fun q => absurd q (by decide)) g2
    have gL608_3 : cv_get L608 3 = some (cv_i K) := kL608 3 _ (by decide) (fun q => absurd q (by decide)) g3
    have gL608_4 : cv_get L608 4 = some (cv_i O) := kL608 4 _ (by decide) (fun q => absurd q (by decide)) g4
    have gL608_5 : cv_get L608 5 = some (cv_i N) := kL608 5 _ (by decide) (fun _ => rfl) g5
    refine ex_ic oq_X12_wordAt_54 (m := 0) (by decide) (fun x609 hx609 => ?_)
    refine ex_iswA oq_X12_wordAt_55 (fun L610 gL610_7 kL610 => ?_)
    have gL610_6 : cv_get L610 6 = some (cv_i x607) := kL610 6 _ (by decide) (fun _ => rfl) gL608_6
    have gL610_0 : cv_get L610 0 = some (cv_r 111) := kL610 0 _ (by decide) (fun q => absurd q (by decide)) gL608_0
    have gL610_1 : cv_get L610 1 = some (cv_i A) := kL610 1 _ (by decide) (fun q => absurd q (by decide)) gL608_1
    have gL610_2 : cv_get L610 2 = some (cv_i B) := kL610 2 _ (by decide) (fun q => absurd q (by decide)) gL608_2
    have gL610_3 : cv_get L610 3 = some (cv_i K) := kL610 3 _ (by decide) (fun q => absurd q (by decide)) gL608_3
    have gL610_4 : cv_get L610 4 = some (cv_i O) := kL610 4 _ (by decide) (fun q => absurd q (by decide)) gL608_4
    have gL610_5 : cv_get L610 5 = some (cv_i N) := kL610 5 _ (by decide) (fun q => absurd q (by decide)) gL608_5
    exact rt_cmp ht hwr hT hn9 hA hB hab hbn hK0 hk hO hN (fun L y hp g0 g1 g2 g3 g4 g5 g6 => rt_104 ht hwr hT hn9 hA hB hab hbn hK0 hk hO hN hyes hnext hp g0 g1 g2 g3 g4 g5 g6) (tw_n.getD k 0) 0 L610 x609 x607 (by omega) (by omega) (by omega) (.inl ⟨by omega, by omega, fun j hj => absurd hj (by omega)⟩) gL610_0 gL610_1 gL610_2 gL610_3 gL610_4 gL610_5 gL610_6 gL610_7
theorem rt_15 {h : cv_H} {n : Nat} (ht : ∀ i, i < n → t i = ri_at h 112 i) (hwr : ∀ i, i < 177 → ri_at h 113 i = pp_words.getD i 0) (hT : cw_T G h) (hn9 : n ≤ 900) {A B K O : Int32} {a b k : Nat} (hA : A.toInt = a) (hB : B.toInt = b) (hab : a ≤ b) (hbn : b ≤ n) (hK0 : K.toInt = k) (hk : k < 34) (hO : O.toInt = tw_o.getD k 0) (hyes : ∀ x : Int32, x.toInt = k → tw_m t a b k → Q (some (cv_i x), h)) (hnext : ∀ (L : cv_L) (K O : Int32), K.toInt = k + 1 → O.toInt = tw_o.getD (k + 1) 0 → ¬ tw_m t a b k → cv_get L 0 = some (cv_r 111) → cv_get L 1 = some (cv_i A) → cv_get L 2 = some (cv_i B) → cv_get L 3 = some (cv_i K) → cv_get L 4 = some (cv_i O) → cw_X X 160 Q 5 L [] h) {L : cv_L} (g0 : cv_get L 0 = some (cv_r 111)) (g1 : cv_get L 1 = some (cv_i A)) (g2 : cv_get L 2 = some (cv_i B)) (g3 : cv_get L 3 = some (cv_i K)) (g4 : cv_get L 4 = some (cv_i O)) : cw_X X 160 Q 15 L [] h := by
  have tb := tw_tab k hk
  refine ex_ic oq_X12_wordAt_15 (m := 0) (by decide) (fun x501 hx501 => ?_)
  refine ex_iswA oq_X12_wordAt_16 (fun L502 gL502_5 kL502 => ?_)
  have gL502_0 : cv_get L502 0 = some (cv_r 111) := kL502 0 _ (by decide) (fun q => absurd q (by decide)) g0
  have gL502_1 : cv_get L502 1 = some (cv_i A) := kL502 1 _ (by decide) (fun q => absurd q (by decide)) g1
  have gL502_2 : cv_get L502 2 = some (cv_i B) := kL502 2 _ (by decide) (fun q => absurd q (by decide)) g2
  have gL502_3 : cv_get L502 3 = some (cv_i K) := kL502 3 _ (by decide) (fun q => absurd q (by decide)) g3
  have gL502_4 : cv_get L502 4 = some (cv_i O) := kL502 4 _ (by decide) (fun _ => rfl) g4
  refine rt_len ht hwr hT hn9 hA hB hab hbn hK0 hk hO (fun L x hx g0 g1 g2 g3 g4 g5 => ?_) (tw_n.getD k 0) 0 L502 x501 (by omega) (by omega) (by omega) gL502_0 gL502_1 gL502_2 gL502_3 gL502_4 gL502_5
  exact rt_39 ht hwr hT hn9 hA hB hab hbn hK0 hk hO hx hyes hnext g0 g1 g2 g3 g4 g5
theorem rt_all {h : cv_H} {n : Nat} (ht : ∀ i, i < n → t i = ri_at h 112 i) (hwr : ∀ i, i < 177 → ri_at h 113 i = pp_words.getD i 0) (hT : cw_T G h) (hn9 : n ≤ 900) {A B : Int32} {a b : Nat} (hA : A.toInt = a) (hB : B.toInt = b) (hab : a ≤ b) (hbn : b ≤ n) (hl : ∀ i, a ≤ i → i < b → 97 ≤ t i ∧ t i ≤ 122) (hQ : ∀ x : Int32, x.toInt = tz_word t a b → Q (some (cv_i x), h)) :
    ∀ (f k : Nat) (L : cv_L) (K O : Int32), 34 - k = f → k ≤ 34 → K.toInt = k → O.toInt = tw_o.getD k 0 → (∀ j, j < k → ¬ tw_m t a b j) → cv_get L 0 = some (cv_r 111) → cv_get L 1 = some (cv_i A) → cv_get L 2 = some (cv_i B) → cv_get L 3 = some (cv_i K) → cv_get L 4 = some (cv_i O) → cw_X X 160 Q 5 L [] h := by
  intro f
  induction f with
  | zero =>
    intro k L K O hf hk hK0 hO hno g0 g1 g2 g3 g4
    have ek : k = 34 := by omega
    have eo : tw_o.getD k 0 = 177 := by rw [ek]; exact tw_34
    refine ex_ilw oq_X12_wordAt_5 g4 ?_
    refine ex_al oq_X12_wordAt_7 g0 ?_
    refine ex_gf oq_X12_wordAt_8 hT (k := 111) (d := 12) rfl rfl (fr_words hT) ?_
    refine ex_len oq_X12_wordAt_11 hT (k := 113) (d := 52) rfl rfl (by decide) (fun x801 hx801 => ?_)
    refine ex_if oq_X12_wordAt_12 (t := 126) rfl rfl (fun (c802 : x801.toInt ≤ O.toInt) => ?_) (fun (c802 : ¬ (x801.toInt ≤ O.toInt)) => ?_)
    · refine ex_ic oq_X12_wordAt_126 (m := (-1)) (by decide) (fun x803 hx803 => ?_)
      exact ex_reti oq_X12_wordAt_127 rfl (hQ x803 (by rw [tw_no hab hl (fun j hj => hno j (by omega))]; omega))
    · exfalso; omega
  | succ f ih =>
    intro k L K O hf hk hK0 hO hno g0 g1 g2 g3 g4
    have tb := tw_tab k (by omega)
    refine ex_ilw oq_X12_wordAt_5 g4 ?_
    refine ex_al oq_X12_wordAt_7 g0 ?_
    refine ex_gf oq_X12_wordAt_8 hT (k := 111) (d := 12) rfl rfl (fr_words hT) ?_
    refine ex_len oq_X12_wordAt_11 hT (k := 113) (d := 52) rfl rfl (by decide) (fun x801 hx801 => ?_)
    refine ex_if oq_X12_wordAt_12 (t := 126) rfl rfl (fun (c802 : x801.toInt ≤ O.toInt) => ?_) (fun (c802 : ¬ (x801.toInt ≤ O.toInt)) => ?_)
    · exfalso; omega
    · exact rt_15 ht hwr hT hn9 hA hB hab hbn hK0 (by omega) hO (fun x hx hm => hQ x (by rw [hx]; exact (tw_yes (by omega) hm).symm)) (fun L K O hK1 hO1 hnm g0 g1 g2 g3 g4 => ih (k + 1) L K O (by omega) (by omega) (by omega) (by omega) (fun j hj => by
      by_cases q : j < k
      · exact hno j q
      · have eji : j = k := by omega
        rw [eji]; exact hnm) g0 g1 g2 g3 g4) g0 g1 g2 g3 g4
theorem rt_wordAt {h : cv_H} {n : Nat} (ht : ∀ i, i < n → t i = ri_at h 112 i) (hwr : ∀ i, i < 177 → ri_at h 113 i = pp_words.getD i 0) (hT : cw_T G h) (hn9 : n ≤ 900) {A B : Int32} {a b : Nat} (hA : A.toInt = a) (hB : B.toInt = b) (hab : a ≤ b) (hbn : b ≤ n) (hl : ∀ i, a ≤ i → i < b → 97 ≤ t i ∧ t i ≤ 122) (hQ : ∀ x : Int32, x.toInt = tz_word t a b → Q (some (cv_i x), h)) : cw_X X 160 Q 0 (cv_ent 0 [cv_r 111, cv_i A, cv_i B]) [] h := by
  refine ex_ic oq_X12_wordAt_0 (m := 0) (by decide) (fun x901 hx901 => ?_)
  refine ex_isA oq_X12_wordAt_1 (fun L902 gL902_3 kL902 => ?_)
  have gL902_0 : cv_get L902 0 = some (cv_r 111) := kL902 0 _ (by decide) (fun q => absurd q (by decide)) rfl
  have gL902_1 : cv_get L902 1 = some (cv_i A) := kL902 1 _ (by decide) (fun q => absurd q (by decide)) rfl
  have gL902_2 : cv_get L902 2 = some (cv_i B) := kL902 2 _ (by decide) (fun _ => rfl) rfl
  refine ex_ic oq_X12_wordAt_2 (m := 0) (by decide) (fun x903 hx903 => ?_)
  refine ex_iswA oq_X12_wordAt_3 (fun L904 gL904_4 kL904 => ?_)
  have gL904_3 : cv_get L904 3 = some (cv_i x901) := kL904 3 _ (by decide) (fun _ => rfl) gL902_3
  have gL904_0 : cv_get L904 0 = some (cv_r 111) := kL904 0 _ (by decide) (fun q => absurd q (by decide)) gL902_0
  have gL904_1 : cv_get L904 1 = some (cv_i A) := kL904 1 _ (by decide) (fun q => absurd q (by decide)) gL902_1
  have gL904_2 : cv_get L904 2 = some (cv_i B) := kL904 2 _ (by decide) (fun q => absurd q (by decide)) gL902_2
  exact rt_all ht hwr hT hn9 hA hB hab hbn hl hQ 34 0 L904 x901 x903 (by omega) (by omega) (by omega) (by rw [show tw_o.getD 0 0 = 0 from rfl]; omega) (fun j hj => absurd hj (by omega)) gL904_0 gL904_1 gL904_2 gL904_3 gL904_4
theorem rt_isSmall {h : cv_H} {n i : Nat} (ht : ∀ i, i < n → t i = ri_at h 112 i) (hT : cw_T G h) (hn9 : n ≤ 900) (hs : ri_at h 111 6 = n) {I : Int32} (hI : I.toInt = i) (hQ : ∀ x : Int32, (x.toInt = 1 ∧ i < n ∧ tz_l t i = true ∨ x.toInt = 0 ∧ (i < n → tz_l t i = false)) → Q (some (cv_i x), h)) : cw_X X 161 Q 0 (cv_ent 0 [cv_r 111, cv_i I]) [] h := by
  have hti : i < n → t i = ri_at h 112 i := ht i
  refine ex_il oq_X12_isSmall_0 rfl ?_
  refine ex_al oq_X12_isSmall_1 rfl ?_
  obtain ⟨x1001, ax1001, rx1001, lx1001, ux1001⟩ := fi_stop hT
  refine ex_gf oq_X12_isSmall_2 hT (k := 111) (d := 12) rfl rfl ax1001 ?_
  refine ex_if oq_X12_isSmall_5 (t := 34) rfl rfl (fun (c1002 : x1001.toInt ≤ I.toInt) => ?_) (fun (c1002 : ¬ (x1001.toInt ≤ I.toInt)) => ?_)
  · refine ex_ic oq_X12_isSmall_34 (m := 0) (by decide) (fun x1003 hx1003 => ?_)
    exact ex_retb oq_X12_isSmall_35 rfl (by omega) (by omega) (hQ x1003 (.inr ⟨by omega, fun q1 => by have := ht i q1; exact tz_l_f (t := t) (i := i) (by omega)⟩))
  · refine ex_al oq_X12_isSmall_8 rfl ?_
    refine ex_gf oq_X12_isSmall_9 hT (k := 111) (d := 12) rfl rfl (fr_tape hT) ?_
    refine ex_il oq_X12_isSmall_12 rfl ?_
    refine ex_ia1 oq_X12_isSmall_13 hT (k := 112) (d := 51) (j := i) rfl rfl (by omega) (by omega) (fun x1004 hx1004 lx1004 ux1004 => ?_)
    refine ex_bi oq_X12_isSmall_14 (m := 97) (by decide) (fun x1005 hx1005 => ?_)
    refine ex_if oq_X12_isSmall_16 (t := 34) rfl rfl (fun (c1006 : x1004.toInt < x1005.toInt) => ?_) (fun (c1006 : ¬ (x1004.toInt < x1005.toInt)) => ?_)
    · refine ex_ic oq_X12_isSmall_34 (m := 0) (by decide) (fun x1007 hx1007 => ?_)
      exact ex_retb oq_X12_isSmall_35 rfl (by omega) (by omega) (hQ x1007 (.inr ⟨by omega, fun q1 => by have := ht i q1; exact tz_l_f (t := t) (i := i) (by omega)⟩))
    · refine ex_al oq_X12_isSmall_19 rfl ?_
      refine ex_gf oq_X12_isSmall_20 hT (k := 111) (d := 12) rfl rfl (fr_tape hT) ?_
      refine ex_il oq_X12_isSmall_23 rfl ?_
      refine ex_ia1 oq_X12_isSmall_24 hT (k := 112) (d := 51) (j := i) rfl rfl (by omega) (by omega) (fun x1008 hx1008 lx1008 ux1008 => ?_)
      refine ex_bi oq_X12_isSmall_25 (m := 122) (by decide) (fun x1009 hx1009 => ?_)
      refine ex_if oq_X12_isSmall_27 (t := 34) rfl rfl (fun (c1010 : x1009.toInt < x1008.toInt) => ?_) (fun (c1010 : ¬ (x1009.toInt < x1008.toInt)) => ?_)
      · refine ex_ic oq_X12_isSmall_34 (m := 0) (by decide) (fun x1011 hx1011 => ?_)
        exact ex_retb oq_X12_isSmall_35 rfl (by omega) (by omega) (hQ x1011 (.inr ⟨by omega, fun q1 => by have := ht i q1; exact tz_l_f (t := t) (i := i) (by omega)⟩))
      · refine ex_ic oq_X12_isSmall_30 (m := 1) (by decide) (fun x1012 hx1012 => ?_)
        refine ex_go oq_X12_isSmall_31 (t := 35) rfl rfl ?_
        exact ex_retb oq_X12_isSmall_35 rfl (by omega) (by omega) (hQ x1012 (.inl ⟨by omega, by omega, tz_l_t (t := t) (by omega) (by omega)⟩))
theorem rt_isDigit {h : cv_H} {n i : Nat} (ht : ∀ i, i < n → t i = ri_at h 112 i) (hT : cw_T G h) (hn9 : n ≤ 900) (hs : ri_at h 111 6 = n) {I : Int32} (hI : I.toInt = i) (hQ : ∀ x : Int32, (x.toInt = 1 ∧ i < n ∧ tz_d t i = true ∨ x.toInt = 0 ∧ (i < n → tz_d t i = false)) → Q (some (cv_i x), h)) : cw_X X 162 Q 0 (cv_ent 0 [cv_r 111, cv_i I]) [] h := by
  have hti : i < n → t i = ri_at h 112 i := ht i
  refine ex_il oq_X12_isDigit_0 rfl ?_
  refine ex_al oq_X12_isDigit_1 rfl ?_
  obtain ⟨x1001, ax1001, rx1001, lx1001, ux1001⟩ := fi_stop hT
  refine ex_gf oq_X12_isDigit_2 hT (k := 111) (d := 12) rfl rfl ax1001 ?_
  refine ex_if oq_X12_isDigit_5 (t := 34) rfl rfl (fun (c1002 : x1001.toInt ≤ I.toInt) => ?_) (fun (c1002 : ¬ (x1001.toInt ≤ I.toInt)) => ?_)
  · refine ex_ic oq_X12_isDigit_34 (m := 0) (by decide) (fun x1003 hx1003 => ?_)
    exact ex_retb oq_X12_isDigit_35 rfl (by omega) (by omega) (hQ x1003 (.inr ⟨by omega, fun q1 => by have := ht i q1; exact tz_d_f (t := t) (i := i) (by omega)⟩))
  · refine ex_al oq_X12_isDigit_8 rfl ?_
    refine ex_gf oq_X12_isDigit_9 hT (k := 111) (d := 12) rfl rfl (fr_tape hT) ?_
    refine ex_il oq_X12_isDigit_12 rfl ?_
    refine ex_ia1 oq_X12_isDigit_13 hT (k := 112) (d := 51) (j := i) rfl rfl (by omega) (by omega) (fun x1004 hx1004 lx1004 ux1004 => ?_)
    refine ex_bi oq_X12_isDigit_14 (m := 48) (by decide) (fun x1005 hx1005 => ?_)
    refine ex_if oq_X12_isDigit_16 (t := 34) rfl rfl (fun (c1006 : x1004.toInt < x1005.toInt) => ?_) (fun (c1006 : ¬ (x1004.toInt < x1005.toInt)) => ?_)
    · refine ex_ic oq_X12_isDigit_34 (m := 0) (by decide) (fun x1007 hx1007 => ?_)
      exact ex_retb oq_X12_isDigit_35 rfl (by omega) (by omega) (hQ x1007 (.inr ⟨by omega, fun q1 => by have := ht i q1; exact tz_d_f (t := t) (i := i) (by omega)⟩))
    · refine ex_al oq_X12_isDigit_19 rfl ?_
      refine ex_gf oq_X12_isDigit_20 hT (k := 111) (d := 12) rfl rfl (fr_tape hT) ?_
      refine ex_il oq_X12_isDigit_23 rfl ?_
      refine ex_ia1 oq_X12_isDigit_24 hT (k := 112) (d := 51) (j := i) rfl rfl (by omega) (by omega) (fun x1008 hx1008 lx1008 ux1008 => ?_)
      refine ex_bi oq_X12_isDigit_25 (m := 57) (by decide) (fun x1009 hx1009 => ?_)
      refine ex_if oq_X12_isDigit_27 (t := 34) rfl rfl (fun (c1010 : x1009.toInt < x1008.toInt) => ?_) (fun (c1010 : ¬ (x1009.toInt < x1008.toInt)) => ?_)
      · refine ex_ic oq_X12_isDigit_34 (m := 0) (by decide) (fun x1011 hx1011 => ?_)
        exact ex_retb oq_X12_isDigit_35 rfl (by omega) (by omega) (hQ x1011 (.inr ⟨by omega, fun q1 => by have := ht i q1; exact tz_d_f (t := t) (i := i) (by omega)⟩))
      · refine ex_ic oq_X12_isDigit_30 (m := 1) (by decide) (fun x1012 hx1012 => ?_)
        refine ex_go oq_X12_isDigit_31 (t := 35) rfl rfl ?_
        exact ex_retb oq_X12_isDigit_35 rfl (by omega) (by omega) (hQ x1012 (.inl ⟨by omega, by omega, tz_d_t (t := t) (by omega) (by omega)⟩))
end TZ
