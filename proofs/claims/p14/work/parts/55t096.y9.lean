section
/-! ===== a text of the reference with all that it tells ===== -/
/-- the lower halves stay, the ground is plain -/
def zPA (h0 h : cv_H) (k : Nat) : Prop := zFK h0 h ∧ ∀ j, j < k → ri_at h 114 (12 + j) = 50
theorem pa_w {h0 h h' : cv_H} {k : Nat} {x : Int32} (w : cw_Wr h h' 114 (12 + k) (cv_i x)) (hx : x.toInt = 50) (a : zPA h0 h k) : zPA h0 h' (k + 1) := by
  refine ⟨zFK_wr (k := 114) w (by show 12 ≤ _; omega) a.1, fun j hj => ?_⟩
  by_cases c : j = k
  · rw [c, ri_self w, hx]
  · rw [ri_ne w (.inr (by omega))]; exact a.2 j (by omega)
theorem pa_n {h0 h h' : cv_H} {k d j : Nat} {v : cv_V} (w : cw_Wr h h' d j v) (q : 114 ≠ d) (q2 : zhf d ≤ j) (a : zPA h0 h k) : zPA h0 h' k := ⟨zFK_wr w q2 a.1, fun j hj => (ri_ne w (.inl q)).trans (a.2 j hj)⟩
section TZ
variable {G : Int} {X : cv_X} {Q : cv_O → Prop} {t : Nat → Int}
theorem pa_2 {h0 : cv_H} (hQ : ∀ h', cw_T G h' → zPA h0 h' 12 → Q (none, h')) : ∀ (f k : Nat) (h : cv_H) (L : cv_L) (K : Int32), 4 - k = f → k ≤ 4 → K.toInt = k → cw_T G h → zPA h0 h 12 → cv_get L 0 = some (cv_r 111) → cv_get L 1 = some (cv_i K) → cw_X X 171 Q 57 L [] h := by
  intro f
  induction f with
  | zero =>
    intro k h L K hf hk hK hT ha g0 g1
    refine ex_il oq_X12_plain_57 g1 ?_
    refine ex_ic oq_X12_plain_58 (m := 4) (by decide) (fun x101 hx101 => ?_)
    refine ex_if oq_X12_plain_59 (t := 77) rfl rfl (fun (c102 : x101.toInt ≤ K.toInt) => ?_) (fun (c102 : ¬ (x101.toInt ≤ K.toInt)) => ?_)
    · exact ex_retv oq_X12_plain_77 rfl (hQ h hT ha)
    · exfalso; omega
  | succ f ih =>
    intro k h L K hf hk hK hT ha g0 g1
    refine ex_il oq_X12_plain_57 g1 ?_
    refine ex_ic oq_X12_plain_58 (m := 4) (by decide) (fun x101 hx101 => ?_)
    refine ex_if oq_X12_plain_59 (t := 77) rfl rfl (fun (c102 : x101.toInt ≤ K.toInt) => ?_) (fun (c102 : ¬ (x101.toInt ≤ K.toInt)) => ?_)
    · exfalso; omega
    · refine ex_al oq_X12_plain_62 g0 ?_
      refine ex_gf oq_X12_plain_63 hT (k := 111) (d := 12) rfl rfl (fr_lawTold hT) ?_
      refine ex_ic oq_X12_plain_66 (m := 4) (by decide) (fun x103 hx103 => ?_)
      refine ex_il oq_X12_plain_67 g1 ?_
      refine ex_add oq_X12_plain_68 (by omega) (fun x104 hx104 => ?_)
      refine ex_ic oq_X12_plain_69 (m := 0) (by decide) (fun x105 hx105 => ?_)
      refine ex_bw2 oq_X12_plain_70 hT (k := 117) (d := 56) (j := 4 + k) rfl rfl (by omega) (by omega) ⟨by omega, by omega⟩ (fun h106 Th106 wh106 => ?_)
      refine ex_incA oq_X12_plain_71 (v := K) (m := 1) g1 (by decide) (by omega) (fun L108 x107 hx107 gL108_1 kL108 => ?_)
      have gL108_0 : cv_get L108 0 = some (cv_r 111) := kL108 0 _ (by decide) (fun _ => rfl) g0
      refine ex_go oq_X12_plain_74 (t := 57) rfl rfl ?_
      exact ih (k + 1) h106 L108 x107 (by omega) (by omega) (by omega) Th106 (pa_n wh106 (by decide) (by show 4 ≤ _; omega) ha) gL108_0 gL108_1
theorem pa_1 {h0 : cv_H} (hQ : ∀ h', cw_T G h' → zPA h0 h' 12 → Q (none, h')) : ∀ (f k : Nat) (h : cv_H) (L : cv_L) (K : Int32), 12 - k = f → k ≤ 12 → K.toInt = k → cw_T G h → zPA h0 h k → cv_get L 0 = some (cv_r 111) → cv_get L 1 = some (cv_i K) → cw_X X 171 Q 32 L [] h := by
  intro f
  induction f with
  | zero =>
    intro k h L K hf hk hK hT ha g0 g1
    refine ex_il oq_X12_plain_32 g1 ?_
    refine ex_bi oq_X12_plain_33 (m := 12) (by decide) (fun x101 hx101 => ?_)
    refine ex_if oq_X12_plain_35 (t := 55) rfl rfl (fun (c102 : x101.toInt ≤ K.toInt) => ?_) (fun (c102 : ¬ (x101.toInt ≤ K.toInt)) => ?_)
    · refine ex_ic oq_X12_plain_55 (m := 0) (by decide) (fun x103 hx103 => ?_)
      refine ex_isA oq_X12_plain_56 (fun L104 gL104_1 kL104 => ?_)
      have gL104_0 : cv_get L104 0 = some (cv_r 111) := kL104 0 _ (by decide) (fun _ => rfl) g0
      exact pa_2 hQ 4 0 h L104 x103 rfl (by omega) (by omega) hT (by rw [show k = 12 from by omega] at ha; exact ha) gL104_0 gL104_1
    · exfalso; omega
  | succ f ih =>
    intro k h L K hf hk hK hT ha g0 g1
    refine ex_il oq_X12_plain_32 g1 ?_
    refine ex_bi oq_X12_plain_33 (m := 12) (by decide) (fun x101 hx101 => ?_)
    refine ex_if oq_X12_plain_35 (t := 55) rfl rfl (fun (c102 : x101.toInt ≤ K.toInt) => ?_) (fun (c102 : ¬ (x101.toInt ≤ K.toInt)) => ?_)
    · exfalso; omega
    · refine ex_al oq_X12_plain_38 g0 ?_
      refine ex_gf oq_X12_plain_39 hT (k := 111) (d := 12) rfl rfl (fr_ground hT) ?_
      refine ex_bi oq_X12_plain_42 (m := 12) (by decide) (fun x103 hx103 => ?_)
      refine ex_il oq_X12_plain_44 g1 ?_
      refine ex_add oq_X12_plain_45 (by omega) (fun x104 hx104 => ?_)
      refine ex_bi oq_X12_plain_46 (m := 50) (by decide) (fun x105 hx105 => ?_)
      refine ex_iw1 oq_X12_plain_48 hT (k := 114) (d := 53) (j := 12 + k) rfl rfl (by omega) (by omega) ⟨(cw_i32 _).1, (cw_i32 _).2⟩ (fun h106 Th106 wh106 => ?_)
      refine ex_incA oq_X12_plain_49 (v := K) (m := 1) g1 (by decide) (by omega) (fun L108 x107 hx107 gL108_1 kL108 => ?_)
      have gL108_0 : cv_get L108 0 = some (cv_r 111) := kL108 0 _ (by decide) (fun _ => rfl) g0
      refine ex_go oq_X12_plain_52 (t := 32) rfl rfl ?_
      exact ih (k + 1) h106 L108 x107 (by omega) (by omega) (by omega) Th106 (pa_w wh106 (by omega) ha) gL108_0 gL108_1
theorem rt_plainK {h0 : cv_H} (hT : cw_T G h0) (hQ : ∀ h', cw_T G h' → zPA h0 h' 12 → Q (none, h')) : cw_X X 171 Q 0 (cv_ent 0 [cv_r 111]) [] h0 := by
  refine ex_al oq_X12_plain_0 rfl ?_
  refine ex_ic oq_X12_plain_1 (m := 0) (by decide) (fun x101 hx101 => ?_)
  refine ex_pfi oq_X12_plain_2 hT (k := 111) (d := 12) rfl rfl rfl (by omega) (by omega) (fun h102 Th102 wh102 => ?_)
  refine ex_al oq_X12_plain_5 rfl ?_
  refine ex_ic oq_X12_plain_6 (m := 0) (by decide) (fun x103 hx103 => ?_)
  refine ex_pfi oq_X12_plain_7 Th102 (k := 111) (d := 12) rfl rfl rfl (by omega) (by omega) (fun h104 Th104 wh104 => ?_)
  refine ex_al oq_X12_plain_10 rfl ?_
  refine ex_ic oq_X12_plain_11 (m := 0) (by decide) (fun x105 hx105 => ?_)
  refine ex_pfi oq_X12_plain_12 Th104 (k := 111) (d := 12) rfl rfl rfl (by omega) (by omega) (fun h106 Th106 wh106 => ?_)
  refine ex_al oq_X12_plain_15 rfl ?_
  refine ex_ic oq_X12_plain_16 (m := 0) (by decide) (fun x107 hx107 => ?_)
  refine ex_pfi oq_X12_plain_17 Th106 (k := 111) (d := 12) rfl rfl rfl (by omega) (by omega) (fun h108 Th108 wh108 => ?_)
  refine ex_al oq_X12_plain_20 rfl ?_
  refine ex_ic oq_X12_plain_21 (m := 0) (by decide) (fun x109 hx109 => ?_)
  refine ex_pfi oq_X12_plain_22 Th108 (k := 111) (d := 12) rfl rfl rfl (by omega) (by omega) (fun h110 Th110 wh110 => ?_)
  refine ex_al oq_X12_plain_25 rfl ?_
  refine ex_ic oq_X12_plain_26 (m := 0) (by decide) (fun x111 hx111 => ?_)
  refine ex_pfb oq_X12_plain_27 Th110 (k := 111) (d := 12) rfl rfl rfl (by omega) (by omega) (fun h112 Th112 wh112 => ?_)
  refine ex_ic oq_X12_plain_30 (m := 0) (by decide) (fun x113 hx113 => ?_)
  refine ex_isA oq_X12_plain_31 (fun L114 gL114_1 kL114 => ?_)
  have gL114_0 : cv_get L114 0 = some (cv_r 111) := kL114 0 _ (by decide) (fun _ => rfl) rfl
  exact pa_1 hQ 12 0 h112 L114 x113 rfl (by omega) (by omega) Th112 (pa_n wh112 (by decide) (Nat.zero_le _) (pa_n wh110 (by decide) (Nat.zero_le _) (pa_n wh108 (by decide) (Nat.zero_le _) (pa_n wh106 (by decide) (Nat.zero_le _) (pa_n wh104 (by decide) (Nat.zero_le _) (pa_n wh102 (by decide) (Nat.zero_le _) ⟨zFK_0, fun j hj => absurd hj (Nat.not_lt_zero j)⟩)))))) gL114_0 gL114_1
theorem rt_plainJ {h0 : cv_H} (hT : cw_T G h0) (hQ : ∀ h', zSR h' (0, (fun _ => 0), 0, [], [], []) → zPA h0 h' 12 → Q (none, h')) : cw_X X 171 Q 0 (cv_ent 0 [cv_r 111]) [] h0 := by
  have A := rt_plain (X := X) (Q := fun o => ∃ hb : cv_H, o = (none, hb) ∧ zSR hb (0, (fun _ => 0), 0, [], [], [])) hT (fun hb _ _ b3 => ⟨hb, rfl, b3⟩)
  have B := rt_plainK (X := X) (Q := fun o => ∃ hb : cv_H, o = (none, hb) ∧ zPA h0 hb 12) hT (fun hb _ b => ⟨hb, rfl, b⟩)
  refine cw_X_mono (cw_X_and A B) (fun o ho => ?_)
  obtain ⟨⟨hb, rfl, a⟩, hb', e, b⟩ := ho
  cases e
  exact hQ hb a b
def zTw9 (S : (Int × Nat) ⊕ (zSg × Int)) (F : Nat → Int) (h : cv_H) : Prop := match S with
  | .inl _ => ∀ i, i ∈ ([12, 13, 14, 15, 43, 50, 52, 53, 66] : List Nat) → ri_at h 111 i = F i
  | .inr (s, _) => zKs s h
theorem zK59 {m : Nat} {F : Nat → Int} {h h' : cv_H} (C : cw_Fr cw_Ds cw_sh m h h') (q : ([12, 13, 14, 15, 43, 50, 52, 53, 66] : List Nat).all (fun i => !cw_bit m 12 i) = true) (hk : ∀ i, i ∈ ([12, 13, 14, 15, 43, 50, 52, 53, 66] : List Nat) → ri_at h 111 i = F i) : ∀ i, i ∈ ([12, 13, 14, 15, 43, 50, 52, 53, 66] : List Nat) → ri_at h' 111 i = F i := fun i hi => (ri_frf C (k := 111) (d := 12) rfl rfl (by simpa using List.all_eq_true.mp q i hi)).trans (hk i hi)
theorem zRW_0 {h0 h : cv_H} (a : zPA h0 h 12) : zRW 1 h (0, (fun _ => 0), 0, [], [], []) zD0 :=
  ⟨⟨⟨rfl, rfl, rfl⟩, rfl, rfl, rfl⟩, fun k hk => absurd hk (Nat.not_lt_zero k), fun k hk => absurd hk (Nat.not_lt_zero k), fun j hj => a.2 j hj, fun k hk => absurd hk (Nat.not_lt_zero k), rfl, fun j _ ht => absurd ht (by simp)⟩
theorem zKN_mv {h h' : cv_H} {o o' : Nat} : ∀ {cs : List Int} {i : Nat} {S : List Int}, zKN h o i S cs → (∀ j, j < cs.length → ri_at h' 125 (o' + (i + j)) = ri_at h 125 (o + (i + j)) ∧ ri_at h' 126 (o' + (i + j)) = ri_at h 126 (o + (i + j)) ∧ ri_at h' 127 (o' + (i + j)) = ri_at h 127 (o + (i + j))) → zKN h' o' i S cs
  | [], _, _, _, _ => trivial
  | b :: cs, i, S, q, e => by
    have e0 := e 0 (by simp)
    refine ⟨⟨⟨e0.1.trans q.1.1.1, e0.2.1.trans q.1.1.2.1, e0.2.2.trans q.1.1.2.2⟩, q.1.2⟩, zKN_mv q.2 (fun j hj => ?_)⟩
    have e1 := e (j + 1) (by rw [List.length_cons]; omega)
    rw [show i + (j + 1) = i + 1 + j from by omega] at e1
    exact e1
theorem zRW_k {h h' : cv_H} {s : zSg} {d : zDt} (a : zRW 1 h s d) (hg : s.2.2.2.1.length ≤ 4) (hw : s.2.2.2.2.1.length ≤ 6) (hc : s.2.2.2.2.2.length ≤ 6) (hk : s.2.2.1 ≤ 64) (k : zKa h h') : zRW 0 h' s d := by
  obtain ⟨a1, a2, a3, a4, a5, a6, a7⟩ := a
  obtain ⟨-, -, -, -, -, -, -, k114, k115, k116, k119, k120, k122, k124, k125, k126, k127, k117⟩ := k
  refine ⟨a1, fun j hj => ?_, fun j hj => ?_, fun j hj => ?_, fun i hi => ⟨fun j hj => ?_, fun j hj => ?_⟩, a6, fun j hj ht => ?_⟩
  · have := a2 j hj
    rw [k122 _ (by omega), k122 _ (by omega), k122 _ (by omega)]
    rw [show 18 + (18 * 0 + 3 * j) = 18 * 1 + 3 * j from by omega, show 18 + (18 * 0 + 3 * j + 1) = 18 * 1 + 3 * j + 1 from by omega, show 18 + (18 * 0 + 3 * j + 2) = 18 * 1 + 3 * j + 2 from by omega]
    exact this
  · have := a3 j hj
    rw [k124 _ (by omega), k124 _ (by omega), k124 _ (by omega)]
    rw [show 18 + (18 * 0 + 3 * j) = 18 * 1 + 3 * j from by omega, show 18 + (18 * 0 + 3 * j + 1) = 18 * 1 + 3 * j + 1 from by omega, show 18 + (18 * 0 + 3 * j + 2) = 18 * 1 + 3 * j + 2 from by omega]
    exact this
  · rw [k114 _ (by omega), show 12 + (12 * 0 + j) = 12 * 1 + j from by omega]
    exact a4 j hj
  · rw [k119 _ (by omega), show 64 + (64 * 0 + 16 * i + j) = 64 * 1 + 16 * i + j from by omega]
    exact (a5 i hi).1 j hj
  · rw [k120 _ (by omega), show 36 + (36 * 0 + 9 * i + j) = 36 * 1 + 9 * i + j from by omega]
    exact (a5 i hi).2 j hj
  · obtain ⟨x, y, b1, b2, b3, b4, b5, b6, b7⟩ := a7 j hj ht
    refine ⟨x, y, b1, b2, b3, b4, ?_, ?_, ?_⟩
    · rw [k115 _ (by omega), show 4 + (4 * 0 + j) = 4 * 1 + j from by omega]; exact b5
    · rw [k116 _ (by omega), show 4 + (4 * 0 + j) = 4 * 1 + j from by omega]; exact b6
    · refine ⟨zKN_mv b7.1 (fun i hi => ?_), b7.2⟩
      have hi' : x + i < 64 := by
        rw [List.length_take, List.length_drop] at hi
        omega
      rw [k125 _ (by omega), k126 _ (by omega), k127 _ (by omega), show 64 + (64 * 0 + (x + i)) = 64 * 1 + (x + i) from by omega]
      exact ⟨rfl, rfl, rfl⟩
/-- what a text that fails leaves alone -/
def zFJ (h h' : cv_H) : Prop := zFK h h' ∧ ∀ i, ri_at h' 130 i = ri_at h 130 i
theorem zFJ_tr {h h' h'' : cv_H} (a : zFJ h h') (b : zFJ h' h'') : zFJ h h'' := ⟨zFK_tr a.1 b.1, fun i => (b.2 i).trans (a.2 i)⟩
/-- the end of a text: what is kept -/
def zTy (S : (Int × Nat) ⊕ (zSg × Int)) (D : zDt) (h0 h : cv_H) : Prop := match S with
  | .inl _ => zFJ h0 h
  | .inr (s, _) => zRW 0 h s D ∧ zSB h 4 (fun g i => ri_at h 119 (16 * g + i)) ∧ ∀ i : Nat, i < 4 → ri_at h 117 i = s.2.1 (i : Int)
theorem zTy_tr {S : (Int × Nat) ⊕ (zSg × Int)} {D : zDt} {h0 h1 h : cv_H} (k : zFJ h0 h1) (a : zTy S D h1 h) : zTy S D h0 h := by
  cases S with
  | inl e => exact zFJ_tr k a
  | inr w => exact a
theorem rt_tx4 {h0 : cv_H} {n : Nat} (hX : cw_Xok X) (ht : ∀ i, i < n → t i = ri_at h0 112 i) (hn9 : n ≤ 900) (hwr : ∀ i, i < 177 → ri_at h0 113 i = pp_words.getD i 0) (hw5 : ∀ p, p ≤ n → zk t n p = 5 → 0 ≤ zw t n p ∧ zw t n p ≤ 5) {S : (Int × Nat) ⊕ (zSg × Int)} {F : Nat → Int} {ED : zDt} (hQ : ∀ (x : Int32) (G' : Int) h', cw_T G' h' → cw_PP G' h' → cw_Fr cw_Ds cw_sh mk_tl h0 h' → zTe S x h' → zTw9 S F h' → zTy S ED h0 h' → Q (some (cv_i x), h')) :
    ∀ (f : Nat) (s : zSg) (p : Nat) (k : Int32) (h : cv_H), n - p < f → p ≤ n → ztx t n f k.toInt s p = S → cw_T G h → cw_PP G h → rd_I h → zR t n p h → zSR h s → ri_at h 111 4 = 0 → ri_at h 111 5 = -1 → (∀ i, i ∈ ([12, 13, 14, 15, 43, 50, 52, 53, 66] : List Nat) → ri_at h 111 i = F i) → zFJ h0 h → ∀ d : zDt, zRW 1 h s d → ztD t n f s p d = ED → cw_Fr cw_Ds cw_sh mk_tl h0 h → ∀ L : cv_L, cv_get L 0 = some (cv_r 111) → cv_get L 2 = some (cv_i k) → 0 ≤ k.toInt → k.toInt + f ≤ 2000 → cw_X X 188 Q 55 L [] h := by
  intro f
  induction f with
  | zero => intro s p k h hf; omega
  | succ f ih =>
    intro s p k h hf hpn hst Th Ph hI hz hs hf4 hf5 hkp hfk d hd hed Fh L q0 q2 k0 k1
    obtain ⟨z1, z2, z3, z4, -⟩ := id hz
    refine ex_al oq_X12_text_55 q0 ?_
    obtain ⟨x1, ax1, rx1, lx1, ux1⟩ := fi_kind Th
    refine ex_gf oq_X12_text_56 Th (k := 111) (d := 12) rfl rfl ax1 ?_
    refine ex_if0 oq_X12_text_59 (t := 77) rfl rfl (fun (c2 : x1.toInt = 0) => ?_) (fun (c2 : ¬ (x1.toInt = 0)) => ?_)
    · refine ex_al oq_X12_text_77 q0 ?_
      refine ex_cv oq_X12_text_78 (by decide) Th (k := 111) (d := 12) (as := []) (stk := []) rfl rfl rfl rfl rfl rfl ⟨rfl, rfl⟩ (R := fun o => ∃ (G' : Int) (hb : cv_H), o = (none, hb) ∧ cw_T G' hb ∧ cw_PP G' hb ∧ cw_Fr cw_Ds cw_sh mk_kt h hb ∧ (ri_at hb 111 43 = 0 ∧ ri_at hb 111 66 = 0 ∧ ri_at hb 111 52 = 0 ∧ ri_at hb 111 53 = -1 ∧ ri_at hb 111 50 = 0) ∧ zKa h hb ∧ zSB hb 4 (fun g i => ri_at hb 119 (16 * g + i))) (rt_keepTextD (cw_Xok_no2 hX) Th Ph hI (fun G' hb a1 a2 a3 a4 a5 a6 => ⟨G', hb, rfl, a1, a2, a3, a4, a5, a6⟩)) (fun o ho => ?_)
      obtain ⟨G2, h3, rfl, Th3, Ph3, Ch3, Ah3, Kh3, Bh3⟩ := ho
      show cw_X _ _ _ _ _ [] h3
      have Fh3 : cw_Fr cw_Ds cw_sh mk_tl h0 h3 := cw_Fr_tr Fh (cw_Fr_mono (by decide +kernel) Ch3)
      refine ex_il oq_X12_text_81 q2 ?_
      refine ex_reti oq_X12_text_82 rfl (hQ k _ h3 Th3 Ph3 Fh3 ?_ ?_ ?_)
      · rw [← hst, ztx_s, if_pos (by omega)]
        exact ⟨rfl, (ri_frf Ch3 (k := 111) (i := 4) rfl rfl (by decide +kernel)).trans hf4, (ri_frf Ch3 (k := 111) (i := 5) rfl rfl (by decide +kernel)).trans hf5⟩
      · rw [← hst, ztx_s, if_pos (by omega)]
        refine zKs_k hs ?_ ?_ ?_ Ah3 ⟨Kh3.1, Kh3.2.1, Kh3.2.2.1, Kh3.2.2.2.1, Kh3.2.2.2.2.1, Kh3.2.2.2.2.2.1, Kh3.2.2.2.2.2.2.1⟩
        · obtain ⟨x, -, r1, r2, r3⟩ := fi_gatesRead Th
          have := hs.2.2.2.2.1
          omega
        · obtain ⟨x, -, r1, r2, r3⟩ := fi_worksRead Th
          have := hs.2.2.2.2.2.1
          omega
        · obtain ⟨x, -, r1, r2, r3⟩ := fi_causesRead Th
          have := hs.2.2.2.2.2.2.1
          omega
      · rw [← hst, ztx_s, if_pos (by omega), ← hed, ztD_e (by omega)]
        refine ⟨zRW_k hd ?_ ?_ ?_ ?_ Kh3, Bh3, fun i hi => ?_⟩
        · obtain ⟨x, -, r1, r2, r3⟩ := fi_gatesRead Th
          have := hs.2.2.2.2.1
          omega
        · obtain ⟨x, -, r1, r2, r3⟩ := fi_worksRead Th
          have := hs.2.2.2.2.2.1
          omega
        · obtain ⟨x, -, r1, r2, r3⟩ := fi_causesRead Th
          have := hs.2.2.2.2.2.2.1
          omega
        · obtain ⟨x, -, r1, r2, r3⟩ := fi_knotsRead Th
          have := hs.2.2.1
          omega
        · rw [Kh3.2.2.2.2.2.2.2.2.2.2.2.2.2.2.2.2.2 i hi]
          exact (hs.2.1 (i : Int) (by omega)).symm
    · refine ex_al oq_X12_text_62 q0 ?_
      have pq : cw_PQ G (ri_at h 111 7) (ri_at h 111 8) (n : Int) h := ⟨Ph, Int.le_refl _, fun _ => .inl rfl, z1⟩
      refine ex_cv oq_X12_text_63 (by decide) Th (k := 111) (d := 12) (as := []) (stk := []) rfl rfl rfl rfl rfl rfl ⟨rfl, rfl⟩ (R := fun o => (∃ (x : Int32) (hb : cv_H), o = (some (cv_i x), hb) ∧ cw_T G hb ∧ cw_PQ G (ri_at h 111 7) (ri_at h 111 8) n hb ∧ cw_Fr cw_Ds cw_sh mk_ln h hb ∧ (x.toInt = 0 ∨ x.toInt = 1 ∧ rd_I hb ∧ (ri_at hb 111 8 = 0 ∨ ri_at h 111 7 < ri_at hb 111 7))) ∧ ∃ (x : Int32) (hb : cv_H), o = (some (cv_i x), hb) ∧ zFK h hb ∧ zRe t n h hb x (zln t n s p) (fun s' => zSR hb s' ∧ zRW 1 hb s' (zlD t n s p d))) (cw_X_and (sp_lineRead (cw_Xok_no2 hX) Th pq hI (fun x h a0 a1 a2 a3 => ⟨x, h, rfl, a0, a1, a2, a3⟩)) (rt_lineReadJ (fun i hi => by rw [ht i hi]; exact (ri_frr Fh (k := 112) (d := 51) rfl rfl (by decide +kernel)).symm) hn9 Th (fun i hi => by rw [← hwr i hi]; exact ri_frr Fh (k := 113) (d := 52) rfl rfl (by decide +kernel)) hpn hz hw5 hs hd (fun x hb b1 b2 b0 b3 => ⟨x, hb, rfl, b0, b3⟩))) (fun o ho => ?_)
      obtain ⟨⟨x5, h4, rfl, Th4, Zh4, Ch4, dx5⟩, x6, h6, he, fk5, d5⟩ := ho
      cases he
      show cw_X _ _ _ _ _ [cv_i x5] h4
      have Fh4 : cw_Fr cw_Ds cw_sh mk_tl h0 h4 := cw_Fr_tr Fh (cw_Fr_mono (by decide +kernel) Ch4)
      have Ph4 := Zh4.1
      refine ex_if0 oq_X12_text_66 (t := 71) rfl rfl (fun (c6 : ¬ x5.toInt = 0) => ?_) (fun (c6 : ¬ (¬ x5.toInt = 0)) => ?_)
      · obtain ⟨s', q, e1, e2, e3, e4, e5, e6, e7⟩ := zRe_yes d5 c6
        have hge := zln_ge hpn e1
        refine ex_incA oq_X12_text_71 (v := k) (m := 1) q2 (by decide) (by omega) (fun L8 x7 hx7 gL8_2 kL8 => ?_)
        have gL8_0 : cv_get L8 0 = some (cv_r 111) := kL8 0 _ (by decide) (fun q => absurd q (by decide)) q0
        refine ex_go oq_X12_text_74 (t := 55) rfl rfl ?_
        exact ih s' q x7 h4 (by omega) e2 (by rw [← hst, ztx_s, if_neg (by omega), zb2_r e1, hx7]) Th4 Ph4 (dx5.resolve_left (by omega)).2.1 e4 e7.1 (by omega) (by omega) (zK59 Ch4 (by decide +kernel) hkp) (zFJ_tr hfk ⟨fk5, fun i => ri_frr Ch4 (k := 130) (d := 69) rfl rfl (by decide +kernel)⟩) _ e7.2 (by rw [← hed, ztD_s (by omega) e1]) Fh4 L8 gL8_0 gL8_2 (by omega) (by omega)
      · obtain ⟨fc, fa, e1, e2, e3, e4, e5⟩ := zRe_no d5 (by omega)
        refine ex_ic oq_X12_text_69 (m := (-1)) (by decide) (fun x9 hx9 => ?_)
        refine ex_reti oq_X12_text_70 rfl (hQ x9 _ h4 Th4 Ph4 Fh4 ?_ ?_ (by rw [← hst, ztx_s, if_neg (by omega), zb2_l e1]; exact zFJ_tr hfk ⟨fk5, fun i => ri_frr Ch4 (k := 130) (d := 69) rfl rfl (by decide +kernel)⟩))
        · rw [← hst, ztx_s, if_neg (by omega), zb2_l e1]
          exact ⟨hx9, e3, e4⟩
        · rw [← hst, ztx_s, if_neg (by omega), zb2_l e1]
          exact zK59 Ch4 (by decide +kernel) hkp
set_option maxHeartbeats 4000000 in
theorem rt_text4 {h0 : cv_H} (hX : cw_Xok X) (hT : cw_T G h0) (hP : cw_PP G h0) (n : Int32) (ht : ∀ i : Nat, (i : Int) < ri_at h0 111 1 → t i = ri_at h0 112 i) (hwr : ∀ i, i < 177 → ri_at h0 113 i = pp_words.getD i 0) (hw5 : ∀ p, p ≤ n.toInt.toNat → zk t n.toInt.toNat p = 5 → 0 ≤ zw t n.toInt.toNat p ∧ zw t n.toInt.toNat p ≤ 5) (hQ : ∀ (x : Int32) (G' : Int) h', cw_T G' h' → cw_PP G' h' → cw_Fr cw_Ds cw_sh mk_tx h0 h' → ((n.toInt < 0 ∨ ri_at h0 111 1 < n.toInt) ∧ ri_at h' 111 1 = ri_at h0 111 1 ∧ x.toInt = -2 ∧ ri_at h' 111 4 = ri_at h0 111 4 ∧ ri_at h' 111 5 = ri_at h0 111 5 ∧ (∀ i, i ∈ ([12, 13, 14, 15, 43, 50, 52, 53, 66] : List Nat) → ri_at h' 111 i = ri_at h0 111 i) ∧ zFK h0 h' ∧ (∀ i, ri_at h' 130 i = ri_at h0 130 i) ∨ 0 ≤ n.toInt ∧ n.toInt ≤ ri_at h0 111 1 ∧ ri_at h' 111 1 = 0 ∧ zTe (ztx t n.toInt.toNat 901 0 (0, (fun _ => 0), 0, [], [], []) 0) x h' ∧ zTw9 (ztx t n.toInt.toNat 901 0 (0, (fun _ => 0), 0, [], [], []) 0) (fun i => ri_at h0 111 i) h' ∧ zTy (ztx t n.toInt.toNat 901 0 (0, (fun _ => 0), 0, [], [], []) 0) (ztD t n.toInt.toNat 901 (0, (fun _ => 0), 0, [], [], []) 0 zD0) h0 h') → Q (some (cv_i x), h')) : cw_X X 188 Q 0 (cv_ent 0 [cv_r 111, cv_i n]) [] h0 := by
  have Fh0 : cw_Fr cw_Ds cw_sh mk_w0 h0 h0 := cw_Fr_refl
  refine ex_al oq_X12_text_0 rfl ?_
  refine ex_ic oq_X12_text_1 (m := 0) (by decide) (fun x201 hx201 => ?_)
  refine ex_pfi oq_X12_text_2 hT (k := 111) (d := 12) rfl rfl rfl (cw_i32 _).1 (cw_i32 _).2 (fun h202 Th202 wh202 => ?_)
  have Fh202 : cw_Fr cw_Ds cw_sh mk_w0 h0 h202 := cw_Fr_tr Fh0 (cw_Fr_wrf wh202 (k := 111) (d := 12) rfl rfl (by decide +kernel))
  have eh202_1 : ri_at h202 111 1 = ri_at h0 111 1 := ri_ne wh202 (by decide)
  have eh202_4 : ri_at h202 111 4 = ri_at h0 111 4 := ri_ne wh202 (by decide)
  have eh202_5 : ri_at h202 111 5 = ri_at h0 111 5 := ri_ne wh202 (by decide)
  have eh202_6 : ri_at h202 111 6 = ri_at h0 111 6 := ri_ne wh202 (by decide)
  have eh202_7 : ri_at h202 111 7 = ri_at h0 111 7 := ri_ne wh202 (by decide)
  have eh202_8 : ri_at h202 111 8 = ri_at h0 111 8 := ri_ne wh202 (by decide)
  have eh202_9 : ri_at h202 111 9 = ri_at h0 111 9 := ri_ne wh202 (by decide)
  refine ex_il oq_X12_text_5 rfl ?_
  refine ex_if0 oq_X12_text_6 (t := 17) rfl rfl (fun (c203 : n.toInt < 0) => ?_) (fun (c203 : ¬ (n.toInt < 0)) => ?_)
  · refine ex_bi oq_X12_text_17 (m := (-2)) (by decide) (fun x204 hx204 => ?_)
    exact ex_reti oq_X12_text_19 rfl (hQ x204 G h202 Th202 (pp_fr1 (by decide +kernel) hP Fh202 ⟨by have := hP.2.1.1; omega, by intro q; have := hP.2.1.2.1; omega, by intro q; have := hP.2.1.2.2; omega⟩) (cw_Fr_mono (by decide +kernel) Fh202) (.inl ⟨by omega, by omega, by omega, by omega, by omega, fun i hi => ri_frf Fh202 (k := 111) (d := 12) rfl rfl (by revert i; decide +kernel), zFK_fr Fh202 (by decide +kernel) zFK_0, fun i => ri_frr Fh202 (k := 130) (d := 69) rfl rfl (by decide +kernel)⟩))
  · refine ex_il oq_X12_text_9 rfl ?_
    refine ex_al oq_X12_text_10 rfl ?_
    obtain ⟨x205, ax205, rx205, lx205, ux205⟩ := fi_tapeSize Th202
    refine ex_gf oq_X12_text_11 Th202 (k := 111) (d := 12) rfl rfl ax205 ?_
    refine ex_if oq_X12_text_14 (t := 20) rfl rfl (fun (c206 : n.toInt ≤ x205.toInt) => ?_) (fun (c206 : ¬ (n.toInt ≤ x205.toInt)) => ?_)
    · refine ex_al oq_X12_text_20 rfl ?_
      refine ex_il oq_X12_text_21 rfl ?_
      refine ex_pfi oq_X12_text_22 Th202 (k := 111) (d := 12) rfl rfl rfl (by omega) (by omega) (fun h207 Th207 wh207 => ?_)
      have Fh207 : cw_Fr cw_Ds cw_sh mk_w0 h0 h207 := cw_Fr_tr Fh202 (cw_Fr_wrf wh207 (k := 111) (d := 12) rfl rfl (by decide +kernel))
      have eh207_1 : ri_at h207 111 1 = ri_at h202 111 1 := ri_ne wh207 (by decide)
      have eh207_4 : ri_at h207 111 4 = ri_at h202 111 4 := ri_ne wh207 (by decide)
      have eh207_5 : ri_at h207 111 5 = ri_at h202 111 5 := ri_ne wh207 (by decide)
      have eh207_6 : ri_at h207 111 6 = n.toInt := ri_self wh207
      have eh207_7 : ri_at h207 111 7 = ri_at h202 111 7 := ri_ne wh207 (by decide)
      have eh207_8 : ri_at h207 111 8 = ri_at h202 111 8 := ri_ne wh207 (by decide)
      have eh207_9 : ri_at h207 111 9 = ri_at h202 111 9 := ri_ne wh207 (by decide)
      refine ex_al oq_X12_text_25 rfl ?_
      refine ex_ic oq_X12_text_26 (m := 0) (by decide) (fun x208 hx208 => ?_)
      refine ex_pfi oq_X12_text_27 Th207 (k := 111) (d := 12) rfl rfl rfl (by omega) (by omega) (fun h209 Th209 wh209 => ?_)
      have Fh209 : cw_Fr cw_Ds cw_sh mk_w0 h0 h209 := cw_Fr_tr Fh207 (cw_Fr_wrf wh209 (k := 111) (d := 12) rfl rfl (by decide +kernel))
      have eh209_1 : ri_at h209 111 1 = x208.toInt := ri_self wh209
      have eh209_4 : ri_at h209 111 4 = ri_at h207 111 4 := ri_ne wh209 (by decide)
      have eh209_5 : ri_at h209 111 5 = ri_at h207 111 5 := ri_ne wh209 (by decide)
      have eh209_6 : ri_at h209 111 6 = ri_at h207 111 6 := ri_ne wh209 (by decide)
      have eh209_7 : ri_at h209 111 7 = ri_at h207 111 7 := ri_ne wh209 (by decide)
      have eh209_8 : ri_at h209 111 8 = ri_at h207 111 8 := ri_ne wh209 (by decide)
      have eh209_9 : ri_at h209 111 9 = ri_at h207 111 9 := ri_ne wh209 (by decide)
      refine ex_al oq_X12_text_30 rfl ?_
      refine ex_ic oq_X12_text_31 (m := 0) (by decide) (fun x210 hx210 => ?_)
      refine ex_pfi oq_X12_text_32 Th209 (k := 111) (d := 12) rfl rfl rfl (cw_i32 _).1 (cw_i32 _).2 (fun h211 Th211 wh211 => ?_)
      have Fh211 : cw_Fr cw_Ds cw_sh mk_w0 h0 h211 := cw_Fr_tr Fh209 (cw_Fr_wrf wh211 (k := 111) (d := 12) rfl rfl (by decide +kernel))
      have eh211_1 : ri_at h211 111 1 = ri_at h209 111 1 := ri_ne wh211 (by decide)
      have eh211_4 : ri_at h211 111 4 = x210.toInt := ri_self wh211
      have eh211_5 : ri_at h211 111 5 = ri_at h209 111 5 := ri_ne wh211 (by decide)
      have eh211_6 : ri_at h211 111 6 = ri_at h209 111 6 := ri_ne wh211 (by decide)
      have eh211_7 : ri_at h211 111 7 = ri_at h209 111 7 := ri_ne wh211 (by decide)
      have eh211_8 : ri_at h211 111 8 = ri_at h209 111 8 := ri_ne wh211 (by decide)
      have eh211_9 : ri_at h211 111 9 = ri_at h209 111 9 := ri_ne wh211 (by decide)
      refine ex_al oq_X12_text_35 rfl ?_
      refine ex_ic oq_X12_text_36 (m := (-1)) (by decide) (fun x212 hx212 => ?_)
      refine ex_pfi oq_X12_text_37 Th211 (k := 111) (d := 12) rfl rfl rfl (cw_i32 _).1 (cw_i32 _).2 (fun h213 Th213 wh213 => ?_)
      have Fh213 : cw_Fr cw_Ds cw_sh mk_w0 h0 h213 := cw_Fr_tr Fh211 (cw_Fr_wrf wh213 (k := 111) (d := 12) rfl rfl (by decide +kernel))
      have eh213_1 : ri_at h213 111 1 = ri_at h211 111 1 := ri_ne wh213 (by decide)
      have eh213_4 : ri_at h213 111 4 = ri_at h211 111 4 := ri_ne wh213 (by decide)
      have eh213_5 : ri_at h213 111 5 = x212.toInt := ri_self wh213
      have eh213_6 : ri_at h213 111 6 = ri_at h211 111 6 := ri_ne wh213 (by decide)
      have eh213_7 : ri_at h213 111 7 = ri_at h211 111 7 := ri_ne wh213 (by decide)
      have eh213_8 : ri_at h213 111 8 = ri_at h211 111 8 := ri_ne wh213 (by decide)
      have eh213_9 : ri_at h213 111 9 = ri_at h211 111 9 := ri_ne wh213 (by decide)
      refine ex_al oq_X12_text_40 rfl ?_
      refine ex_ic oq_X12_text_41 (m := 0) (by decide) (fun x214 hx214 => ?_)
      refine ex_pfi oq_X12_text_42 Th213 (k := 111) (d := 12) rfl rfl rfl (by omega) (by omega) (fun h215 Th215 wh215 => ?_)
      have Fh215 : cw_Fr cw_Ds cw_sh mk_w0 h0 h215 := cw_Fr_tr Fh213 (cw_Fr_wrf wh215 (k := 111) (d := 12) rfl rfl (by decide +kernel))
      have eh215_1 : ri_at h215 111 1 = ri_at h213 111 1 := ri_ne wh215 (by decide)
      have eh215_4 : ri_at h215 111 4 = ri_at h213 111 4 := ri_ne wh215 (by decide)
      have eh215_5 : ri_at h215 111 5 = ri_at h213 111 5 := ri_ne wh215 (by decide)
      have eh215_6 : ri_at h215 111 6 = ri_at h213 111 6 := ri_ne wh215 (by decide)
      have eh215_7 : ri_at h215 111 7 = x214.toInt := ri_self wh215
      have eh215_8 : ri_at h215 111 8 = ri_at h213 111 8 := ri_ne wh215 (by decide)
      have eh215_9 : ri_at h215 111 9 = ri_at h213 111 9 := ri_ne wh215 (by decide)
      refine ex_al oq_X12_text_45 rfl ?_
      have Ph215 : cw_PP G h215 := pp_fr1 (by decide +kernel) hP Fh215 ⟨by omega, by intro q; have := hP.2.1.2.1; omega, by intro q; have := hP.2.1.2.2; omega⟩
      have pq : cw_PQ G 0 (ri_at h215 111 8) n.toInt h215 := ⟨Ph215, by omega, fun _ => .inl rfl, by omega⟩
      have Fw := cw_Fr_mono (m' := mk_tx) (by decide +kernel) Fh215
      refine ex_cv oq_X12_text_46 (by decide) Th215 (k := 111) (d := 12) (as := []) (stk := []) rfl rfl rfl rfl rfl rfl ⟨rfl, rfl⟩ (R := fun o => (∃ hb : cv_H, o = (none, hb) ∧ cw_T G hb ∧ cw_PQ G 0 (ri_at h215 111 8) n.toInt hb ∧ cw_Fr cw_Ds cw_sh mk_pl h215 hb ∧ rd_I hb) ∧ ∃ hb : cv_H, o = (none, hb) ∧ zSR hb (0, (fun _ => 0), 0, [], [], []) ∧ zPA h215 hb 12) (cw_X_and (sp_plain Th215 pq (fun h a0 a1 a2 a3 => ⟨h, rfl, a0, a1, a2, a3⟩)) (rt_plainJ Th215 (fun hb b3 b4 => ⟨hb, rfl, b3, b4⟩))) (fun o ho => ?_)
      obtain ⟨⟨h216, rfl, Th216, Zh216, Ch216, Ih216⟩, hx, he, Sh216, Pa216⟩ := ho
      cases he
      show cw_X _ _ _ _ _ [] h216
      have Ah216 : cw_Fr cw_Ds cw_sh mk_tl h215 h216 := cw_Fr_mono (by decide +kernel) Ch216
      refine ex_al oq_X12_text_49 rfl ?_
      refine ex_cv oq_X12_text_50 (by decide) Th216 (k := 111) (d := 12) (as := []) (stk := []) rfl rfl rfl rfl rfl rfl ⟨rfl, rfl⟩ (R := fun o => (∃ hb : cv_H, o = (none, hb) ∧ cw_T G hb ∧ cw_PQ G 0 (ri_at h215 111 8) n.toInt hb ∧ cw_Fr cw_Ds cw_sh kk_X12_token.2.2.2.2.2.1 h216 hb ∧ (ri_at hb 111 8 = 0 ∨ 0 < ri_at hb 111 7)) ∧ ∃ hb : cv_H, o = (none, hb) ∧ zR t n.toInt.toNat 0 hb) (cw_X_and (sp_tokenQ (cw_Xok_no2 hX) Th216 Zh216 (fun h a0 a1 a2 a3 => ⟨h, rfl, a0, a1, a2, a3⟩)) (rt_tok (t := t) (n := n.toInt.toNat) (p := 0) (fun i hi => by rw [ht i (by omega)]; exact ((ri_frr Ah216 (k := 112) (d := 51) rfl rfl (by decide +kernel)).trans (ri_frr Fw (k := 112) (d := 51) rfl rfl (by decide +kernel))).symm) (by omega) (fun i hi => by rw [← hwr i hi]; exact (ri_frr Ah216 (k := 113) (d := 52) rfl rfl (by decide +kernel)).trans (ri_frr Fw (k := 113) (d := 52) rfl rfl (by decide +kernel))) Th216 (by omega) (by rw [ri_frf Ch216 (k := 111) (i := 6) rfl rfl (by decide +kernel)]; omega) (by rw [ri_frf Ch216 (k := 111) (i := 7) rfl rfl (by decide +kernel)]; omega) (fun hb b1 b2 b3 => ⟨hb, rfl, b3⟩))) (fun o ho => ?_)
      obtain ⟨⟨h217, rfl, Th217, Zh217, Ch217, prh217⟩, hx, he, Rh217⟩ := ho
      cases he
      have Sh217 := zSR_fr Ch217 Sh216 (by decide +kernel)
      show cw_X _ _ _ _ _ [] h217
      have Ah217 : cw_Fr cw_Ds cw_sh mk_tl h215 h217 := cw_Fr_tr Ah216 (cw_Fr_mono (by decide +kernel) Ch217)
      have rgh217 : ∀ i, ri_at h217 119 i = ri_at h216 119 i := fun i => ri_frq Ch217 (d := 58) rfl rfl (by decide) (by decide +kernel)
      have rch217 : ∀ i, ri_at h217 124 i = ri_at h216 124 i := fun i => ri_frq Ch217 (d := 63) rfl rfl (by decide) (by decide +kernel)
      have rth217 : ∀ i, ri_at h217 117 i = ri_at h216 117 i := fun i => ri_frr Ch217 (d := 56) rfl rfl (by decide +kernel)
      have rlh217 : ∀ i, ri_at h217 116 i = ri_at h216 116 i := fun i => ri_frr Ch217 (d := 55) rfl rfl (by decide +kernel)
      have Ih217 : rd_I h217 := rd_ext Ih216 (ri_frf Ch217 (d := 12) rfl rfl (by decide +kernel)) (ri_frf Ch217 (d := 12) rfl rfl (by decide +kernel)) (ri_frf Ch217 (d := 12) rfl rfl (by decide +kernel)) (ri_frf Ch217 (d := 12) rfl rfl (by decide +kernel)) rgh217 rch217 rth217 rlh217
      refine ex_ic oq_X12_text_53 (m := 0) (by decide) (fun x218 hx218 => ?_)
      refine ex_isA oq_X12_text_54 (fun L219 gL219_2 kL219 => ?_)
      have gL219_0 : cv_get L219 0 = some (cv_r 111) := kL219 0 _ (by decide) (fun q => absurd q (by decide)) rfl
      have gL219_1 : cv_get L219 1 = some (cv_i n) := kL219 1 _ (by decide) (fun _ => rfl) rfl
      have y7 := Zh217.1.2.1.1
      have y6 := Zh217.2.2.2
      have y0 : 0 ≤ ri_at h217 111 7 := Zh217.2.1
      refine rt_tx4 (h0 := h215) (ED := ztD t n.toInt.toNat 901 (0, (fun _ => 0), 0, [], [], []) 0 zD0) (F := fun i => ri_at h0 111 i) (t := t) (n := n.toInt.toNat) (S := ztx t n.toInt.toNat 901 0 (0, (fun _ => 0), 0, [], [], []) 0) hX (fun i hi => by rw [ht i (by omega)]; exact (ri_frr Fw (k := 112) (d := 51) rfl rfl (by decide +kernel)).symm) (by omega) (fun i hi => by rw [← hwr i hi]; exact ri_frr Fw (k := 113) (d := 52) rfl rfl (by decide +kernel)) hw5 (fun x G' h' a1 a2 a3 a4 a5 a6 => hQ x G' h' a1 a2 (cw_Fr_tr Fw (cw_Fr_mono (by decide +kernel) a3)) ?_) 901 _ 0 x218 h217 (by omega) (by omega) (by rw [hx218]) Th217 Zh217.1 Ih217 Rh217 Sh217 ?_ ?_ ?_ ⟨zFK_fr Ch217 (by decide +kernel) Pa216.1, fun i => (ri_frr Ch217 (k := 130) (d := 69) rfl rfl (by decide +kernel)).trans (ri_frr Ch216 (k := 130) (d := 69) rfl rfl (by decide +kernel))⟩ zD0 (zRW_eq (zRW_0 Pa216) (zRE_fr Ch217 (by decide +kernel))) rfl Ah217 L219 gL219_0 gL219_2 (by omega) (by omega)
      · have yt : ri_at h' 111 1 = ri_at h215 111 1 := ri_frf a3 (d := 12) rfl rfl (by decide +kernel)
        exact .inr ⟨by omega, by omega, by omega, a4, a5, zTy_tr ⟨zFK_fr Fh215 (by decide +kernel) zFK_0, fun i => ri_frr Fh215 (k := 130) (d := 69) rfl rfl (by decide +kernel)⟩ a6⟩
      · rw [ri_frf Ch217 (k := 111) (i := 4) rfl rfl (by decide +kernel), ri_frf Ch216 (k := 111) (i := 4) rfl rfl (by decide +kernel)]; omega
      · rw [ri_frf Ch217 (k := 111) (i := 5) rfl rfl (by decide +kernel), ri_frf Ch216 (k := 111) (i := 5) rfl rfl (by decide +kernel)]; omega
      · exact zK59 Ch217 (by decide +kernel) (zK59 Ch216 (by decide +kernel) (zK59 Fh215 (by decide +kernel) (fun i _ => rfl)))
    · refine ex_bi oq_X12_text_17 (m := (-2)) (by decide) (fun x220 hx220 => ?_)
      exact ex_reti oq_X12_text_19 rfl (hQ x220 G h202 Th202 (pp_fr1 (by decide +kernel) hP Fh202 ⟨by have := hP.2.1.1; omega, by intro q; have := hP.2.1.2.1; omega, by intro q; have := hP.2.1.2.2; omega⟩) (cw_Fr_mono (by decide +kernel) Fh202) (.inl ⟨by omega, by omega, by omega, by omega, by omega, fun i hi => ri_frf Fh202 (k := 111) (d := 12) rfl rfl (by revert i; decide +kernel), zFK_fr Fh202 (by decide +kernel) zFK_0, fun i => ri_frr Fh202 (k := 130) (d := 69) rfl rfl (by decide +kernel)⟩))
end TZ
end
section
/-! ===== what a text tells is in range ===== -/
theorem zo_P {α β : Type} {P : β → Prop} {S : (Int × Nat) ⊕ (α × Nat)} {f : α → Nat → β} {d : β} (hd : P d) (hf : ∀ v q, S = .inr (v, q) → P (f v q)) : P (zo S f d) := by
  cases S with
  | inl x => exact hd
  | inr x => obtain ⟨v, q⟩ := x; exact hf v q rfl
theorem zcr_64 {t : Nat → Int} {n : Nat} {cn : List Int} {cm p c q : Nat} (e : zcr t n cn cm p = .inr (c, q)) (h : cm < 64) (hc : cn.length ≤ 6) : c < 64 := by
  unfold zcr at e
  split at e
  · split at e
    · cases e
    · rename_i h1
      split at e
      · cases e
      · cases e
        rcases zfd_b (x := zw t n p) cn 0 with b | b
        · omega
        · exact bt_64 h (by omega)
  · cases e
theorem zhs_64 {t : Nat → Int} {n : Nat} {hh : Int} {cn : List Int} {w : Int} {cm p c q : Nat} (e : zhs t n hh cn w cm p = .inr (c, q)) (h : cm < 64) (hc : cn.length ≤ 6) : c < 64 := by
  unfold zhs at e
  by_cases c0 : w = 0
  · rw [if_pos c0] at e; obtain ⟨_, _, _, e⟩ := zb2_e e; cases e; exact h
  rw [if_neg c0] at e
  by_cases c1 : w = 1
  · rw [if_pos c1] at e; obtain ⟨_, _, _, e⟩ := zb2_e e; obtain ⟨_, _, _, e⟩ := zb2_e e; cases e; exact h
  rw [if_neg c1] at e
  by_cases c2 : w = 2
  · rw [if_pos c2] at e
    split at e
    · cases e; exact h
    · cases e
  rw [if_neg c2] at e
  by_cases c3 : w = 3
  · rw [if_pos c3] at e; obtain ⟨_, _, _, e⟩ := zb2_e e; cases e; exact h
  rw [if_neg c3] at e
  by_cases c4 : w = 4
  · rw [if_pos c4] at e; obtain ⟨_, _, _, e⟩ := zb2_e e; cases e; exact h
  rw [if_neg c4] at e
  by_cases c5 : w = 5
  · rw [if_pos c5] at e; obtain ⟨_, _, _, e⟩ := zb2_e e; cases e; exact h
  rw [if_neg c5] at e
  by_cases c6 : w = 6
  · rw [if_pos c6] at e; exact zcr_64 e h hc
  rw [if_neg c6] at e; obtain ⟨_, _, _, e⟩ := zb2_e e; cases e; exact h
theorem zpt_64 {t : Nat → Int} {n : Nat} {hh : Int} {cn : List Int} {m cm p c q : Nat} (e : zpt t n hh cn m cm p = .inr (c, q)) (h : cm < 64) (hc : cn.length ≤ 6) : c < 64 := by
  unfold zpt at e
  split at e
  · cases e
  · exact zhs_64 e h hc
theorem zgF_64 {t : Nat → Int} {n : Nat} {hh : Int} {cn : List Int} (hc : cn.length ≤ 6) : ∀ (u m cm p : Nat) (D : Nat → Int), cm < 64 → (zgF t n hh cn u m cm p D).2 < 64
  | 0, m, cm, p, D, a => a
  | u + 1, m, cm, p, D, a => by
    rw [zgF_s]
    by_cases c : zhw (zk t n p) (zw t n p) < 0
    · rw [if_pos c]; exact a
    rw [if_neg c]
    cases z : zpt t n hh cn m cm p with
    | inl x => exact a
    | inr x =>
      obtain ⟨v, q⟩ := x
      exact zgF_64 hc u _ v q _ (zpt_64 z a hc)
/-- the rises of a gate -/
def zTs (D : Nat → Int) : Prop := ∀ j, j < 9 → 0 ≤ D (16 + j) ∧ D (16 + j) ≤ 200
theorem zTs_U {D : Nat → Int} {i : Nat} {v : Int} (h : i < 16) (a : zTs D) : zTs (zgU D i v) := fun j hj => by rw [zgU_ne (by omega)]; exact a j hj
theorem zgB_S {a hh w : Int} : zTs (zgB a hh w) := fun j hj => by rw [zgB_h (by omega)]; omega
theorem zpW_S {t : Nat → Int} {n p : Nat} {hh w : Int} {D : Nat → Int} (A : zTs D) : zTs (zpW t n hh w p D) := by
  unfold zpW
  by_cases c0 : w = 0
  · rw [if_pos c0]
    exact zo_P (P := zTs) A (fun v1 q1 _ => zo_P (P := zTs) A (fun v2 q2 _ => zo_P (P := zTs) A (fun v3 q3 _ => zo_P (P := zTs) A (fun v4 q4 _ => zTs_U (by decide) (zTs_U (by decide) (zTs_U (by decide) (zTs_U (by decide) A)))))))
  rw [if_neg c0]
  by_cases c1 : w = 1
  · rw [if_pos c1]
    exact zo_P (P := zTs) A (fun v1 q1 _ => zo_P (P := zTs) A (fun v2 q2 _ => zTs_U (by decide) (zTs_U (by decide) A)))
  rw [if_neg c1]
  by_cases c2 : w = 2
  · rw [if_pos c2]; exact zTs_U (by decide) A
  rw [if_neg c2]
  by_cases c3 : w = 3
  · rw [if_pos c3]; exact zo_P (P := zTs) A (fun v1 q1 _ => zTs_U (by decide) (zTs_U (by decide) A))
  rw [if_neg c3]
  by_cases c4 : w = 4
  · rw [if_pos c4]; exact zo_P (P := zTs) A (fun v1 q1 _ => zTs_U (by decide) A)
  rw [if_neg c4]
  by_cases c5 : w = 5
  · rw [if_pos c5]
    refine zo_P (P := zTs) A (fun vs q1 e j hj => ?_)
    rw [if_pos (by omega), show 16 + j - 16 = j from by omega]
    exact zns_iv _ _ _ _ e j hj
  rw [if_neg c5]
  by_cases c6 : w = 6
  · rw [if_pos c6]; exact A
  rw [if_neg c6]
  exact zo_P (P := zTs) A (fun v1 q1 _ => zTs_U (by decide) A)
theorem zgF_S {t : Nat → Int} {n : Nat} {hh : Int} {cn : List Int} : ∀ (u m cm p : Nat) (D : Nat → Int), zTs D → zTs (zgF t n hh cn u m cm p D).1
  | 0, m, cm, p, D, a => a
  | u + 1, m, cm, p, D, a => by
    rw [zgF_s]
    by_cases c : zhw (zk t n p) (zw t n p) < 0
    · rw [if_pos c]; exact a
    rw [if_neg c]
    cases z : zpt t n hh cn m cm p with
    | inl x => exact a
    | inr x =>
      obtain ⟨v, q⟩ := x
      exact zgF_S u _ v q _ (zpW_S a)
theorem zfD_a2 {t : Nat → Int} {n : Nat} : ∀ (u : Nat) (st : List Int) (kn w m : Int) (p : Nat) (A B : List Int) (nm : Nat), (zfD t n u st kn w m p A nm).2 = (zfD t n u st kn w m p B nm).2
  | 0, _, _, _, _, _, _, _, _ => rfl
  | u + 1, st, kn, w, m, p, A, B, nm => by
    rw [zfD_s, zfD_s]
    by_cases c : zsk (zk t n p) (zw t n p) = 0 ∧ w = 0 ∧ zc0 st = 0
    · rw [if_pos c, if_pos c]
    · rw [if_neg c, if_neg c]
      by_cases c1 : w = 1
      · rw [if_pos c1, if_pos c1]
        rcases zSum (zlf t n st kn m p) with ⟨e, hS⟩ | ⟨v, q, hS⟩
        · rw [hS]; rfl
        · rw [zo_r hS, zo_r hS]; exact zfD_a2 u _ _ _ _ _ _ _ _
      · rw [if_neg c1, if_neg c1]
        rcases zSum (zsg t n st kn m p) with ⟨e, hS⟩ | ⟨v, q, hS⟩
        · rw [hS]; rfl
        · rw [zo_r hS, zo_r hS]; exact zfD_a2 u _ _ _ _ _ _ _ _
theorem zmo_w (k : Int) : 0 ≤ zmo k ∧ zmo k ≤ 9999 := by
  unfold zmo
  (repeat' split) <;> omega
def zDw (s : zSg) (d : zDt) : Prop := ∀ k, k < s.2.2.2.2.1.length → (1 ≤ (d.1 9).getD k 0 ∧ (d.1 9).getD k 0 ≤ 999) ∧ (0 ≤ (d.1 10).getD k 0 ∧ (d.1 10).getD k 0 ≤ 6) ∧ 0 ≤ (d.1 11).getD k 0 ∧ (d.1 11).getD k 0 ≤ zmo ((d.1 10).getD k 0)
def zDc (s : zSg) (d : zDt) : Prop := ∀ k, k < s.2.2.2.2.2.length → (1 ≤ (d.1 13).getD k 0 ∧ (d.1 13).getD k 0 ≤ 99) ∧ (0 ≤ (d.1 14).getD k 0 ∧ (d.1 14).getD k 0 ≤ 2) ∧ 0 ≤ (d.1 15).getD k 0 ∧ (d.1 15).getD k 0 ≤ 999
def zDg (d : zDt) : Prop := ∀ g, g < 4 → ∃ hh, (24 ≤ hh ∧ hh ≤ 72) ∧ zTd hh (d.2 (16 + g)) ∧ zTs (d.2 (16 + g)) ∧ 0 ≤ d.2 (16 + g) 14 ∧ d.2 (16 + g) 14 < 64
def zDn (d : zDt) : Prop := ∀ j, j < 12 → 1 ≤ d.2 1 j ∧ d.2 1 j ≤ 99
def zDl (s : zSg) (d : zDt) : Prop := ∀ j : Nat, j < 4 → s.2.1 (j : Int) = 1 → ∃ a b nm : Nat, d.2 3 j = a ∧ d.2 4 j = b ∧ d.2 5 j = nm ∧ a ≤ b ∧ b ≤ (d.1 2).length ∧ zcO (((d.1 2).drop a).take (b - a)) nm
/-- all that is told is in range -/
def zDR (s : zSg) (d : zDt) : Prop := (zWL s d ∧ s.2.2.2.1.length ≤ 4 ∧ s.2.2.2.2.1.length ≤ 6 ∧ s.2.2.2.2.2.length ≤ 6) ∧ zDw s d ∧ zDc s d ∧ zDg d ∧ zDn d ∧ zDl s d
theorem zTd_z : zTd 24 (fun j => z16.getD j 0) := by
  unfold zTd z16
  decide
theorem zDR_0 : zDR (0, (fun _ => 0), 0, [], [], []) zD0 := by
  refine ⟨⟨⟨⟨rfl, rfl, rfl⟩, rfl, rfl, rfl⟩, (by decide : (0 : Nat) ≤ 4), (by decide : (0 : Nat) ≤ 6), (by decide : (0 : Nat) ≤ 6)⟩, fun k hk => absurd hk (Nat.not_lt_zero k), fun k hk => absurd hk (Nat.not_lt_zero k), fun g hg => ?_, fun j hj => ⟨(by decide : (1 : Int) ≤ 50), (by decide : (50 : Int) ≤ 99)⟩, fun j hj ht => absurd ht (by simp)⟩
  have e : zD0.2 (16 + g) = fun j => z16.getD j 0 := funext (fun j => zD0_t (by omega))
  rw [e]
  exact ⟨24, by omega, zTd_z, fun j _ => by dsimp only; rw [z16_0]; omega, by decide, by decide⟩
section LN
variable {t : Nat → Int} {n p : Nat} {gt : Int} {lt : Int → Int} {kn : Int} {gl wl cl : List Int} {d : zDt}
theorem zDg_U {g : Nat} {F : Nat → Int} (a : zDg d) {X : Nat → List Int} (h : ∃ hh, (24 ≤ hh ∧ hh ≤ 72) ∧ zTd hh F ∧ zTs F ∧ 0 ≤ F 14 ∧ F 14 < 64) : zDg (X, zfU d.2 (16 + g) F) := by
  intro i hi
  show ∃ hh, (24 ≤ hh ∧ hh ≤ 72) ∧ zTd hh (zfU d.2 (16 + g) F (16 + i)) ∧ zTs (zfU d.2 (16 + g) F (16 + i)) ∧ 0 ≤ zfU d.2 (16 + g) F (16 + i) 14 ∧ zfU d.2 (16 + g) F (16 + i) 14 < 64
  by_cases c : i = g
  · rw [c, zfU_eq]; exact h
  · rw [zfU_ne (by omega)]; exact a i hi
theorem zDR_n {vs : List Int} (a : zDR (gt, lt, kn, gl, wl, cl) d) (h : ∀ j, j < 12 → 1 ≤ vs.getD j 0 ∧ vs.getD j 0 ≤ 99) : zDR (1, lt, kn, gl, wl, cl) (zdN d vs) := by
  obtain ⟨a1, a2, a3, a4, a5, a6⟩ := a
  refine ⟨a1, a2, a3, fun i hi => ?_, fun j hj => ?_, fun j hj ht => ?_⟩
  · have e : (zdN d vs).2 (16 + i) = d.2 (16 + i) := zfU_ne (by omega)
    rw [e]; exact a4 i hi
  · have e : (zdN d vs).2 1 = fun j => vs.getD j 0 := (show zfU d.2 1 (fun j => vs.getD j 0) 1 = _ from zfU_eq)
    rw [e]; exact h j hj
  · have e : ∀ o, o ≠ 1 → (zdN d vs).2 o = d.2 o := fun o ho => zfU_ne ho
    rw [e 3 (by decide), e 4 (by decide), e 5 (by decide)]
    exact a6 j hj ht
theorem zDR_w {c k v x : Int} (a : zDR (gt, lt, kn, gl, wl, cl) d) (h6 : wl.length < 6) (h : (1 ≤ c ∧ c ≤ 999) ∧ (0 ≤ k ∧ k ≤ 6) ∧ 0 ≤ v ∧ v ≤ zmo k) : zDR (gt, lt, kn, gl, wl ++ [x], cl) (zdW d c k v) := by
  obtain ⟨⟨⟨⟨w1, w2, w3⟩, w4⟩, l1, l2, l3⟩, a2, a3, a4, a5, a6⟩ := a
  dsimp only at w1 w2 w3 l1 l2 l3
  have eL : (wl ++ [x]).length = wl.length + 1 := by rw [List.length_append]; rfl
  refine ⟨⟨⟨⟨?_, ?_, ?_⟩, w4⟩, l1, (by show (wl ++ [x]).length ≤ 6; omega), l3⟩, fun j hj => ?_, a3, a4, a5, a6⟩
  · show (d.1 9 ++ [c]).length = (wl ++ [x]).length
    rw [List.length_append, List.length_append, w1]; rfl
  · show (d.1 10 ++ [k]).length = (wl ++ [x]).length
    rw [List.length_append, List.length_append, w2]; rfl
  · show (d.1 11 ++ [v]).length = (wl ++ [x]).length
    rw [List.length_append, List.length_append, w3]; rfl
  · have hj' : j < wl.length + 1 := by
      have : j < (wl ++ [x]).length := hj
      omega
    show (1 ≤ (d.1 9 ++ [c]).getD j 0 ∧ (d.1 9 ++ [c]).getD j 0 ≤ 999) ∧ (0 ≤ (d.1 10 ++ [k]).getD j 0 ∧ (d.1 10 ++ [k]).getD j 0 ≤ 6) ∧ 0 ≤ (d.1 11 ++ [v]).getD j 0 ∧ (d.1 11 ++ [v]).getD j 0 ≤ zmo ((d.1 10 ++ [k]).getD j 0)
    rw [getD_app (by omega), getD_app (by omega), getD_app (by omega), w1, w2, w3]
    by_cases q : j = wl.length
    · rw [if_pos q, if_pos q, if_pos q]; exact h
    · rw [if_neg q, if_neg q, if_neg q]; exact a2 j (by show j < wl.length; omega)
theorem zDR_c {c k v x : Int} (a : zDR (gt, lt, kn, gl, wl, cl) d) (h6 : cl.length < 6) (h : (1 ≤ c ∧ c ≤ 99) ∧ (0 ≤ k ∧ k ≤ 2) ∧ 0 ≤ v ∧ v ≤ 999) : zDR (gt, lt, kn, gl, wl, cl ++ [x]) (zdC d c k v) := by
  obtain ⟨⟨⟨w0, w1, w2, w3⟩, l1, l2, l3⟩, a2, a3, a4, a5, a6⟩ := a
  dsimp only at w1 w2 w3 l1 l2 l3
  have eL : (cl ++ [x]).length = cl.length + 1 := by rw [List.length_append]; rfl
  refine ⟨⟨⟨w0, ?_, ?_, ?_⟩, l1, l2, (by show (cl ++ [x]).length ≤ 6; omega)⟩, a2, fun j hj => ?_, a4, a5, a6⟩
  · show (d.1 13 ++ [c]).length = (cl ++ [x]).length
    rw [List.length_append, List.length_append, w1]; rfl
  · show (d.1 14 ++ [k]).length = (cl ++ [x]).length
    rw [List.length_append, List.length_append, w2]; rfl
  · show (d.1 15 ++ [v]).length = (cl ++ [x]).length
    rw [List.length_append, List.length_append, w3]; rfl
  · have hj' : j < cl.length + 1 := by
      have : j < (cl ++ [x]).length := hj
      omega
    show (1 ≤ (d.1 13 ++ [c]).getD j 0 ∧ (d.1 13 ++ [c]).getD j 0 ≤ 99) ∧ (0 ≤ (d.1 14 ++ [k]).getD j 0 ∧ (d.1 14 ++ [k]).getD j 0 ≤ 2) ∧ 0 ≤ (d.1 15 ++ [v]).getD j 0 ∧ (d.1 15 ++ [v]).getD j 0 ≤ 999
    rw [getD_app (by omega), getD_app (by omega), getD_app (by omega), w1, w2, w3]
    by_cases q : j = cl.length
    · rw [if_pos q, if_pos q, if_pos q]; exact h
    · rw [if_neg q, if_neg q, if_neg q]; exact a3 j (by show j < cl.length; omega)
theorem zDR_g {x : Int} {R : (Nat → Int) × Nat} {hh : Int} (a : zDR (gt, lt, kn, gl, wl, cl) d) (h4 : gl.length < 4) (h1 : 24 ≤ hh ∧ hh ≤ 72) (h2 : zTd hh R.1) (h3 : zTs R.1) (h5 : R.2 < 64) : zDR (gt, lt, kn, gl ++ [x], wl, cl) (zdG d gl.length R) := by
  obtain ⟨⟨w0, l1, l2, l3⟩, a2, a3, a4, a5, a6⟩ := a
  dsimp only at l1 l2 l3
  have eL : (gl ++ [x]).length = gl.length + 1 := by rw [List.length_append]; rfl
  refine ⟨⟨w0, (by show (gl ++ [x]).length ≤ 4; omega), l2, l3⟩, a2, a3, zDg_U a4 ⟨hh, h1, h2, fun j hj => ?_, ?_, ?_⟩, fun j hj => ?_, fun j hj ht => ?_⟩
  · dsimp only; rw [if_neg (by omega)]; exact h3 j hj
  · show (0 : Int) ≤ ((R.2 : Nat) : Int); omega
  · show ((R.2 : Nat) : Int) < 64; omega
  · have e : (zdG d gl.length R).2 1 = d.2 1 := zfU_ne (by omega)
    rw [e]; exact a5 j hj
  · have e : ∀ o, o < 16 → (zdG d gl.length R).2 o = d.2 o := fun o ho => zfU_ne (by omega)
    rw [e 3 (by decide), e 4 (by decide), e 5 (by decide)]
    exact a6 j hj ht
theorem zDR_l {k' : Int} {J : Nat} {R : List Int × Nat} {C : List Int} (a : zDR (gt, lt, kn, gl, wl, cl) d) (eC : R.1 = d.1 2 ++ C) (hO : zcO C R.2) : zDR (gt, (fun i => if i = (J : Int) then 1 else lt i), k', gl, wl, cl) (zdL d J R) := by
  obtain ⟨a1, a2, a3, a4, a5, a6⟩ := a
  refine ⟨a1, a2, a3, fun i hi => ?_, fun j hj => ?_, fun j hj ht => ?_⟩
  · have g : (zdL d J R).2 (16 + i) = d.2 (16 + i) := (zfU_ne (by omega)).trans ((zfU_ne (by omega)).trans (zfU_ne (by omega)))
    rw [g]; exact a4 i hi
  · have g : (zdL d J R).2 1 = d.2 1 := by
      show zfU (zfU (zfU d.2 3 (zfU (d.2 3) J ((d.1 2).length : Int))) 4 (zfU (d.2 4) J (R.1.length : Int))) 5 (zfU (d.2 5) J ((R.2 : Nat) : Int)) 1 = d.2 1
      rw [zfU_ne (by decide), zfU_ne (by decide), zfU_ne (by decide)]
    rw [g]; exact a5 j hj
  · show ∃ a b nm : Nat, zfU (d.2 3) J ((d.1 2).length : Int) j = a ∧ zfU (d.2 4) J (R.1.length : Int) j = b ∧ zfU (d.2 5) J ((R.2 : Nat) : Int) j = nm ∧ a ≤ b ∧ b ≤ R.1.length ∧ zcO ((R.1.drop a).take (b - a)) nm
    by_cases q : j = J
    · subst q
      rw [zfU_eq, zfU_eq, zfU_eq]
      refine ⟨(d.1 2).length, R.1.length, R.2, rfl, rfl, rfl, by rw [eC, List.length_append]; omega, Nat.le_refl _, ?_⟩
      rw [eC, List.drop_left, List.length_append, Nat.add_sub_cancel_left, List.take_length]
      exact hO
    · rw [zfU_ne q, zfU_ne q, zfU_ne q]
      have ht' : lt (j : Int) = 1 := by
        have : (if (j : Int) = (J : Int) then 1 else lt (j : Int)) = 1 := ht
        rwa [if_neg (by omega)] at this
      obtain ⟨x, y, nm, c1, c2, c3, c4, c5, c6⟩ := a6 j hj ht'
      refine ⟨x, y, nm, c1, c2, c3, c4, by rw [eC, List.length_append]; omega, ?_⟩
      have e2 : (R.1.drop x).take (y - x) = ((d.1 2).drop x).take (y - x) := by
        rw [eC, List.drop_append_of_le_length (by omega), List.take_append_of_le_length (by rw [List.length_drop]; omega)]
      rw [e2]
      exact c6
theorem zlD_R {s s' : zSg} {q : Nat} (hn9 : n ≤ 900) (hp : p ≤ n) (hw5 : ∀ p, p ≤ n → zk t n p = 5 → 0 ≤ zw t n p ∧ zw t n p ≤ 5) (e : zln t n s p = .inr (s', q)) (a : zDR s d) : zDR s' (zlD t n s p d) := by
  obtain ⟨gt, lt, kn, gl, wl, cl⟩ := s
  unfold zln at e
  split at e
  · rename_i hk
    obtain ⟨s1, q1, e1, e2⟩ := zb2_e e
    split at e2
    · cases e2
      clear e
      unfold zl0 at e1
      by_cases c0 : zw t n p = 0
      · rw [if_pos c0] at e1
        obtain ⟨vs, q2, e3, e4⟩ := zb2_e e1
        cases e4
        rw [zlD_0 c0 e3]
        unfold zgl at e3
        split at e3
        · exact zDR_n a (zns_iv _ _ _ _ e3)
        · cases e3
      rw [if_neg c0] at e1
      by_cases c1 : zw t n p = 1
      · rw [if_pos c1] at e1
        obtain ⟨v, q2, e3, e4⟩ := zb2_e e1
        cases e4
        rw [zlD_1 c1]
        obtain ⟨⟨i1, i2, i3⟩, i4⟩ := zll_i e3
        unfold zll at e3
        rw [if_pos ⟨i1, i2, i3⟩] at e3
        split at e3
        · obtain ⟨k, q3, e5, e6⟩ := zb2_e e3
          have hz := zcO_f (t := t) (n := n) (fun p hp hk => (zw_1 hp hk).2) (fun p hp hk => (zw_3 hp hk).1) hw5 901 [] kn 1 1 (zx t n (zx t n p)) [] 0 k q3 (by omega) (zx_le (zx_le hp)) e5 trivial zcO_0
          have eC : (zfD t n 901 [] kn 1 1 (zx t n (zx t n p)) (d.1 2) 0).1 = d.1 2 ++ (zfD t n 901 [] kn 1 1 (zx t n (zx t n p)) [] 0).1 := by
            have := zfD_ap (t := t) (n := n) 901 [] kn 1 1 (zx t n (zx t n p)) (d.1 2) [] 0
            rwa [List.append_nil] at this
          have eN : (zfD t n 901 [] kn 1 1 (zx t n (zx t n p)) (d.1 2) 0).2 = (zfD t n 901 [] kn 1 1 (zx t n (zx t n p)) [] 0).2 := zfD_a2 ..
          have hJ : v.1 = ((zw t n (zx t n p) - 5).toNat : Int) := by omega
          rw [hJ]
          exact zDR_l a eC (by rw [eN]; exact hz)
        · cases e3
      rw [if_neg c1] at e1
      by_cases c2 : zw t n p = 2
      · rw [if_pos c2] at e1
        obtain ⟨v, q2, e3, e4⟩ := zb2_e e1
        cases e4
        rw [zlD_2 c2]
        obtain ⟨h4, p1, A, p2, hh, p3, w, p4, v0, z1, z2, z3, z4, z5⟩ := zgt_i e3
        unfold zgD
        rw [zo_r z1, zo_r z2, zo_r z3, zo_r z4]
        have l4 := a.1.2.1
        have l6 := a.1.2.2.2
        dsimp only at h4 l4 l6
        exact zDR_g a (show gl.length < 4 from by omega) (zn_iv z3) (zgF_R _ _ _ _ _ (zgB_R (zn_iv z2) (zn_iv z3) (zn_iv z4))) (zgF_S _ _ _ _ _ zgB_S) (zgF_64 l6 _ _ _ _ _ (by decide))
      rw [if_neg c2] at e1
      by_cases c3 : zw t n p = 3
      · rw [if_pos c3] at e1
        obtain ⟨v, q2, e3, e4⟩ := zb2_e e1
        cases e4
        rw [zlD_3 c3]
        obtain ⟨h6, p1, c, p2, z1, z2, z3, z4⟩ := zwl_i e3
        have l6 := a.1.2.2.1
        dsimp only at h6 l6
        have kb := zwk_b (k := zk t n p2) (w := zw t n p2)
        unfold zwD
        rw [zo_r z1, zo_r z2]
        rcases z4 with ⟨y1, x, y2⟩ | ⟨y1, y2⟩
        · rw [if_pos y1, zo_r y2]
          exact zDR_w a (show wl.length < 6 from by omega) ⟨zn_iv z2, ⟨z3, kb.2⟩, zn_iv y2⟩
        · rw [if_neg (by omega)]
          exact zDR_w a (show wl.length < 6 from by omega) ⟨zn_iv z2, ⟨z3, kb.2⟩, by decide, (zmo_w _).1⟩
      rw [if_neg c3] at e1
      obtain ⟨v, q2, e3, e4⟩ := zb2_e e1
      cases e4
      have z0 := (zw_1 hp hk.1).1
      rw [zlD_4 (by omega)]
      obtain ⟨h6, p1, c, p2, x, z1, z2, z3, z4⟩ := zcl_i e3
      have l6 := a.1.2.2.2
      dsimp only at h6 l6
      unfold zcD
      rw [zo_r z1, zo_r z2, zo_r z4]
      have r := zn_iv z4
      exact zDR_c a (show cl.length < 6 from by omega) ⟨zn_iv z2, by omega, by omega⟩
    · cases e2
  · cases e
theorem ztD_R (hn9 : n ≤ 900) (hw5 : ∀ p, p ≤ n → zk t n p = 5 → 0 ≤ zw t n p ∧ zw t n p ≤ 5) : ∀ (u : Nat) (k : Int) (s : zSg) (p : Nat) (d : zDt) (s' : zSg) (k' : Int), p ≤ n → ztx t n u k s p = .inr (s', k') → zDR s d → n - p < u → zDR s' (ztD t n u s p d)
  | 0, k, s, p, d, s', k', hp, e, a, hu => by omega
  | u + 1, k, s, p, d, s', k', hp, e, a, hu => by
    rw [ztx_s] at e
    by_cases c : zk t n p = 0
    · rw [if_pos c] at e
      cases e
      rw [ztD, if_pos c]
      exact a
    · rw [if_neg c] at e
      obtain ⟨s1, q, e1, e2⟩ := zb2_e e
      have g := zln_ge hp e1
      rw [ztD_s c e1]
      exact ztD_R hn9 hw5 u _ _ _ _ _ _ g.2 e2 (zlD_R hn9 hp hw5 e1 a) (by omega)
end LN
end
