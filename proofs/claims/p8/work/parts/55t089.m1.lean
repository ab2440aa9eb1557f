/-! ===== rows that are laid; a gate's start: the reference ===== -/
section SPM
variable {G : Int} {X : cv_X} {Q : cv_O → Prop}
theorem oq_X12_begins_0 : cw_ho 201 0 (.iconst 0) 1 0 0 0 := rfl
theorem oq_X12_begins_1 : cw_ho 201 1 (.istore_n 2) 1 0 0 0 := rfl
theorem oq_X12_begins_2 : cw_ho 201 2 (.iload_n 2) 1 0 0 0 := rfl
theorem oq_X12_begins_3 : cw_ho 201 3 (.bipush 16) 2 0 0 0 := rfl
theorem oq_X12_begins_5 : cw_ho 201 5 (.if_icmp .ge 16) 3 0 0 0 := rfl
theorem oq_X12_begins_8 : cw_ho 201 8 (.aload_n 0) 1 0 0 0 := rfl
theorem oq_X12_begins_9 : cw_ho 201 9 (.getfield 72) 3 12 45 4 := rfl
theorem oq_X12_begins_12 : cw_ho 201 12 (.iload_n 2) 1 0 0 0 := rfl
theorem oq_X12_begins_13 : cw_ho 201 13 (.iconst 0) 1 0 0 0 := rfl
theorem oq_X12_begins_14 : cw_ho 201 14 (.iastore) 1 0 0 0 := rfl
theorem oq_X12_begins_15 : cw_ho 201 15 (.iinc 2 1) 3 0 0 0 := rfl
theorem oq_X12_begins_18 : cw_ho 201 18 (.goto (-16)) 3 0 0 0 := rfl
theorem oq_X12_begins_21 : cw_ho 201 21 (.aload_n 0) 1 0 0 0 := rfl
theorem oq_X12_begins_22 : cw_ho 201 22 (.getfield 72) 3 12 45 4 := rfl
theorem oq_X12_begins_25 : cw_ho 201 25 (.bipush 6) 2 0 0 0 := rfl
theorem oq_X12_begins_27 : cw_ho 201 27 (.aload_n 0) 1 0 0 0 := rfl
theorem oq_X12_begins_28 : cw_ho 201 28 (.getfield 36) 3 12 26 4 := rfl
theorem oq_X12_begins_31 : cw_ho 201 31 (.bipush 16) 2 0 0 0 := rfl
theorem oq_X12_begins_33 : cw_ho 201 33 (.iload_n 1) 1 0 0 0 := rfl
theorem oq_X12_begins_34 : cw_ho 201 34 (.imul) 1 0 0 0 := rfl
theorem oq_X12_begins_35 : cw_ho 201 35 (.bipush 7) 2 0 0 0 := rfl
theorem oq_X12_begins_37 : cw_ho 201 37 (.iadd) 1 0 0 0 := rfl
theorem oq_X12_begins_38 : cw_ho 201 38 (.iaload) 1 0 0 0 := rfl
theorem oq_X12_begins_39 : cw_ho 201 39 (.iastore) 1 0 0 0 := rfl
theorem oq_X12_begins_40 : cw_ho 201 40 (.aload_n 0) 1 0 0 0 := rfl
theorem oq_X12_begins_41 : cw_ho 201 41 (.getfield 72) 3 12 45 4 := rfl
theorem oq_X12_begins_44 : cw_ho 201 44 (.bipush 7) 2 0 0 0 := rfl
theorem oq_X12_begins_46 : cw_ho 201 46 (.aload_n 0) 1 0 0 0 := rfl
theorem oq_X12_begins_47 : cw_ho 201 47 (.getfield 36) 3 12 26 4 := rfl
theorem oq_X12_begins_50 : cw_ho 201 50 (.bipush 16) 2 0 0 0 := rfl
theorem oq_X12_begins_52 : cw_ho 201 52 (.iload_n 1) 1 0 0 0 := rfl
theorem oq_X12_begins_53 : cw_ho 201 53 (.imul) 1 0 0 0 := rfl
theorem oq_X12_begins_54 : cw_ho 201 54 (.bipush 9) 2 0 0 0 := rfl
theorem oq_X12_begins_56 : cw_ho 201 56 (.iadd) 1 0 0 0 := rfl
theorem oq_X12_begins_57 : cw_ho 201 57 (.iaload) 1 0 0 0 := rfl
theorem oq_X12_begins_58 : cw_ho 201 58 (.iastore) 1 0 0 0 := rfl
theorem oq_X12_begins_59 : cw_ho 201 59 (.aload_n 0) 1 0 0 0 := rfl
theorem oq_X12_begins_60 : cw_ho 201 60 (.getfield 72) 3 12 45 4 := rfl
theorem oq_X12_begins_63 : cw_ho 201 63 (.bipush 8) 2 0 0 0 := rfl
theorem oq_X12_begins_65 : cw_ho 201 65 (.aload_n 0) 1 0 0 0 := rfl
theorem oq_X12_begins_66 : cw_ho 201 66 (.getfield 36) 3 12 26 4 := rfl
theorem oq_X12_begins_69 : cw_ho 201 69 (.bipush 16) 2 0 0 0 := rfl
theorem oq_X12_begins_71 : cw_ho 201 71 (.iload_n 1) 1 0 0 0 := rfl
theorem oq_X12_begins_72 : cw_ho 201 72 (.imul) 1 0 0 0 := rfl
theorem oq_X12_begins_73 : cw_ho 201 73 (.bipush 12) 2 0 0 0 := rfl
theorem oq_X12_begins_75 : cw_ho 201 75 (.iadd) 1 0 0 0 := rfl
theorem oq_X12_begins_76 : cw_ho 201 76 (.iaload) 1 0 0 0 := rfl
theorem oq_X12_begins_77 : cw_ho 201 77 (.iastore) 1 0 0 0 := rfl
theorem oq_X12_begins_78 : cw_ho 201 78 (.aload_n 0) 1 0 0 0 := rfl
theorem oq_X12_begins_79 : cw_ho 201 79 (.getfield 72) 3 12 45 4 := rfl
theorem oq_X12_begins_82 : cw_ho 201 82 (.bipush 10) 2 0 0 0 := rfl
theorem oq_X12_begins_84 : cw_ho 201 84 (.aload_n 0) 1 0 0 0 := rfl
theorem oq_X12_begins_85 : cw_ho 201 85 (.getfield 36) 3 12 26 4 := rfl
theorem oq_X12_begins_88 : cw_ho 201 88 (.bipush 16) 2 0 0 0 := rfl
theorem oq_X12_begins_90 : cw_ho 201 90 (.iload_n 1) 1 0 0 0 := rfl
theorem oq_X12_begins_91 : cw_ho 201 91 (.imul) 1 0 0 0 := rfl
theorem oq_X12_begins_92 : cw_ho 201 92 (.bipush 14) 2 0 0 0 := rfl
theorem oq_X12_begins_94 : cw_ho 201 94 (.iadd) 1 0 0 0 := rfl
theorem oq_X12_begins_95 : cw_ho 201 95 (.iaload) 1 0 0 0 := rfl
theorem oq_X12_begins_96 : cw_ho 201 96 (.iastore) 1 0 0 0 := rfl
theorem oq_X12_begins_97 : cw_ho 201 97 (.return_) 1 0 0 0 := rfl
theorem ly_2 {R1 d1 m1 p1 R2 d2 m2 p2 : Nat} {rs1 rs2 : List (Int × Int)} {h0 : cv_H} (hk1 : cw_sh[R1]? = some d1) (hD1 : cw_Ds[d1]? = some (.inl (0, m1, p1, rs1))) (hk2 : cw_sh[R2]? = some d2) (hD2 : cw_Ds[d2]? = some (.inl (0, m2, p2, rs2))) (hne : R1 ≠ R2) {A B : Int32} {a b : Nat} (hA : A.toInt = a) (hB : B.toInt = b) (ha : a + 16 ≤ m1) (hb : b + 16 ≤ m2) (hm1 : m1 ≤ 10000) (hm2 : m2 ≤ 10000) (hfree : ∀ j, a ≤ j → j < a + 16 → ∀ r, rs1[j % p1]? = some r → r = (-2147483648, 2147483647))
    (hfin : ∀ h, cw_T G h → cp_F R1 h0 h → (∀ i, i < 16 → ri_at h R1 (a + i) = ri_at h0 R2 (b + i)) → (∀ i, (i < a ∨ a + 16 ≤ i) → ri_at h R1 i = ri_at h0 R1 i) → Q (none, h)) : ∀ (M : Nat) (k : Int32) (kn : Nat) (h : cv_H), k.toInt = kn → kn ≤ 16 → 16 - kn ≤ M → cw_T G h → cp_F R1 h0 h → (∀ i, i < kn → ri_at h R1 (a + i) = ri_at h0 R2 (b + i)) → (∀ i, (i < a ∨ a + kn ≤ i) → ri_at h R1 i = ri_at h0 R1 i) → ∀ L : cv_L, cv_get L 0 = some (cv_r R1) → cv_get L 1 = some (cv_i A) → cv_get L 2 = some (cv_r R2) → cv_get L 3 = some (cv_i B) → cv_get L 4 = some (cv_i k) → cw_X X 200 Q 3 L [] h := by
  intro M
  induction M with
  | zero =>
    intro k kn h e1 e2 e3 hT hF a1 a2 L q0 q1 q2 q3 q4
    refine ex_ilw oq_X12_lays_3 q4 ?_
    refine ex_bi oq_X12_lays_5 (m := 16) (by decide) (fun x0 hx0 => ?_)
    refine ex_if oq_X12_lays_7 (t := 28) rfl rfl (fun (c1 : x0.toInt ≤ k.toInt) => ?_) (fun (c1 : ¬ (x0.toInt ≤ k.toInt)) => ?_)
    · have ek : kn = 16 := by omega
      subst ek
      exact ex_retv oq_X12_lays_28 rfl (hfin h hT hF a1 a2)
    · exfalso; omega
  | succ M ih =>
    intro k kn h e1 e2 e3 hT hF a1 a2 L q0 q1 q2 q3 q4
    refine ex_ilw oq_X12_lays_3 q4 ?_
    refine ex_bi oq_X12_lays_5 (m := 16) (by decide) (fun x0 hx0 => ?_)
    refine ex_if oq_X12_lays_7 (t := 28) rfl rfl (fun (c1 : x0.toInt ≤ k.toInt) => ?_) (fun (c1 : ¬ (x0.toInt ≤ k.toInt)) => ?_)
    · have ek : kn = 16 := by omega
      subst ek
      exact ex_retv oq_X12_lays_28 rfl (hfin h hT hF a1 a2)
    · refine ex_al oq_X12_lays_10 q0 ?_
      refine ex_il oq_X12_lays_11 q1 ?_
      refine ex_ilw oq_X12_lays_12 q4 ?_
      refine ex_add oq_X12_lays_14 (by omega) (fun x1 hx1 => ?_)
      refine ex_al oq_X12_lays_15 q2 ?_
      refine ex_il oq_X12_lays_16 q3 ?_
      refine ex_ilw oq_X12_lays_17 q4 ?_
      refine ex_add oq_X12_lays_19 (by omega) (fun x2 hx2 => ?_)
      refine ex_iap oq_X12_lays_20 hT hk2 hD2 (j := b + kn) (by omega) (by omega) (fun x3 hx3 => ?_)
      refine ex_iw oq_X12_lays_21 hT hk1 hD1 (j := a + kn) (by omega) (by omega) (fun r hr => ?_) (fun h1 hT1 w1 => ?_)
      · rw [hfree _ (by omega) (by omega) r hr]
        exact cw_i32 x3
      · refine ex_incA oq_X12_lays_22 (v := k) (m := 1) q4 (by decide) (by omega) (fun L2 x4 hx4 g2 k2 => ?_)
        refine ex_go oq_X12_lays_25 (t := 3) rfl rfl ?_
        refine ih x4 (kn + 1) h1 (by omega) (by omega) (by omega) hT1 (fun k' hk' => (w1.2.2 k' hk').trans (hF k' hk')) (fun i hi => ?_) (fun i hi => ?_) L2 (k2 0 _ (by decide) (fun q => absurd q (by decide)) q0) (k2 1 _ (by decide) (fun q => absurd q (by decide)) q1) (k2 2 _ (by decide) (fun q => absurd q (by decide)) q2) (k2 3 _ (by decide) (fun _ => rfl) q3) g2
        · by_cases e : i = kn
          · subst e
            rw [ri_self w1, ← hx3]
            exact cp_ri hF (fun q => hne q.symm)
          · rw [ri_ne w1 (.inr (by omega))]
            exact a1 i (by omega)
        · rw [ri_ne w1 (.inr (by omega))]
          exact a2 i (by omega)
theorem rt_lays {R1 d1 m1 p1 R2 d2 m2 p2 : Nat} {rs1 rs2 : List (Int × Int)} {h0 : cv_H} (hT : cw_T G h0) (hk1 : cw_sh[R1]? = some d1) (hD1 : cw_Ds[d1]? = some (.inl (0, m1, p1, rs1))) (hk2 : cw_sh[R2]? = some d2) (hD2 : cw_Ds[d2]? = some (.inl (0, m2, p2, rs2))) (hne : R1 ≠ R2) {A B : Int32} {a b : Nat} (hA : A.toInt = a) (hB : B.toInt = b) (ha : a + 16 ≤ m1) (hb : b + 16 ≤ m2) (hm1 : m1 ≤ 10000) (hm2 : m2 ≤ 10000) (hfree : ∀ j, a ≤ j → j < a + 16 → ∀ r, rs1[j % p1]? = some r → r = (-2147483648, 2147483647))
    (hfin : ∀ h, cw_T G h → cp_F R1 h0 h → (∀ i, i < 16 → ri_at h R1 (a + i) = ri_at h0 R2 (b + i)) → (∀ i, (i < a ∨ a + 16 ≤ i) → ri_at h R1 i = ri_at h0 R1 i) → Q (none, h)) : cw_X X 200 Q 0 (cv_ent 0 [cv_r R1, cv_i A, cv_r R2, cv_i B]) [] h0 := by
  refine ex_ic oq_X12_lays_0 (m := 0) (by decide) (fun x1 hx1 => ?_)
  refine ex_iswA oq_X12_lays_1 (fun L2 g2 k2 => ?_)
  exact ly_2 hk1 hD1 hk2 hD2 hne hA hB ha hb hm1 hm2 hfree hfin 16 x1 0 h0 hx1 (by omega) (by omega) hT (fun _ _ => rfl) (fun i hi => absurd hi (by omega)) (fun i _ => rfl) L2 (k2 0 _ (by decide) (fun q => absurd q (by decide)) rfl) (k2 1 _ (by decide) (fun q => absurd q (by decide)) rfl) (k2 2 _ (by decide) (fun q => absurd q (by decide)) rfl) (k2 3 _ (by decide) (fun _ => rfl) rfl) g2
theorem free1 {j : Nat} {r : Int × Int} (h : ([(-2147483648, 2147483647)] : List (Int × Int))[j % 1]? = some r) : r = (-2147483648, 2147483647) := by
  rw [Nat.mod_one] at h
  cases h
  rfl
/-- a gate's start, of its numbers -/
def zBg (T : Nat → Int) (k : Nat) : Int := if k = 6 then T 7 else if k = 7 then T 9 else if k = 8 then T 12 else if k = 10 then T 14 else 0
theorem bg_2 {g : Int32} {h0 : cv_H} (kk : ∀ h L, cw_T G h → cp_F 131 h0 h → (∀ i, i < 16 → ri_at h 131 i = 0) → cv_get L 0 = some (cv_r 111) → cv_get L 1 = some (cv_i g) → cw_X X 201 Q 21 L [] h) : ∀ (M : Nat) (k : Int32) (kn : Nat) (h : cv_H), k.toInt = kn → kn ≤ 16 → 16 - kn ≤ M → cw_T G h → cp_F 131 h0 h → (∀ i, i < kn → ri_at h 131 i = 0) → ∀ L : cv_L, cv_get L 0 = some (cv_r 111) → cv_get L 1 = some (cv_i g) → cv_get L 2 = some (cv_i k) → cw_X X 201 Q 2 L [] h := by
  intro M
  induction M with
  | zero =>
    intro k kn h e1 e2 e3 hT hF a1 L q0 q1 q2
    refine ex_il oq_X12_begins_2 q2 ?_
    refine ex_bi oq_X12_begins_3 (m := 16) (by decide) (fun x0 hx0 => ?_)
    refine ex_if oq_X12_begins_5 (t := 21) rfl rfl (fun (c1 : x0.toInt ≤ k.toInt) => ?_) (fun (c1 : ¬ (x0.toInt ≤ k.toInt)) => ?_)
    · have ek : kn = 16 := by omega
      subst ek
      exact kk h L hT hF a1 q0 q1
    · exfalso; omega
  | succ M ih =>
    intro k kn h e1 e2 e3 hT hF a1 L q0 q1 q2
    refine ex_il oq_X12_begins_2 q2 ?_
    refine ex_bi oq_X12_begins_3 (m := 16) (by decide) (fun x0 hx0 => ?_)
    refine ex_if oq_X12_begins_5 (t := 21) rfl rfl (fun (c1 : x0.toInt ≤ k.toInt) => ?_) (fun (c1 : ¬ (x0.toInt ≤ k.toInt)) => ?_)
    · have ek : kn = 16 := by omega
      subst ek
      exact kk h L hT hF a1 q0 q1
    · refine ex_al oq_X12_begins_8 q0 ?_
      refine ex_gf oq_X12_begins_9 hT (k := 111) (d := 12) rfl rfl (fr_now hT) ?_
      refine ex_il oq_X12_begins_12 q2 ?_
      refine ex_ic oq_X12_begins_13 (m := 0) (by decide) (fun x1 hx1 => ?_)
      refine ex_iw1 oq_X12_begins_14 hT (k := 131) (d := 70) (j := kn) rfl rfl (by omega) (by omega) ⟨(cw_i32 _).1, (cw_i32 _).2⟩ (fun h1 hT1 w1 => ?_)
      refine ex_incA oq_X12_begins_15 (v := k) (m := 1) q2 (by decide) (by omega) (fun L2 x4 hx4 g2 k2 => ?_)
      refine ex_go oq_X12_begins_18 (t := 2) rfl rfl ?_
      refine ih x4 (kn + 1) h1 (by omega) (by omega) (by omega) hT1 (fun k' hk' => (w1.2.2 k' hk').trans (hF k' hk')) (fun i hi => ?_) L2 (k2 0 _ (by decide) (fun q => absurd q (by decide)) q0) (k2 1 _ (by decide) (fun _ => rfl) q1) g2
      by_cases e : i = kn
      · subst e
        rw [ri_self w1, hx1]
      · rw [ri_ne w1 (.inr (by omega))]
        exact a1 i (by omega)
theorem rt_begins {h0 : cv_H} (hT0 : cw_T G h0) {g : Int32} {gn : Nat} (hg : g.toInt = gn) (hg4 : gn < 4) (hQ : ∀ h', cw_T G h' → cp_F 131 h0 h' → (∀ k, k < 16 → ri_at h' 131 k = zBg (fun i => ri_at h0 119 (16 * gn + i)) k) → Q (none, h')) : cw_X X 201 Q 0 (cv_ent 0 [cv_r 111, cv_i g]) [] h0 := by
  refine ex_ic oq_X12_begins_0 (m := 0) (by decide) (fun x1 hx1 => ?_)
  refine ex_isA oq_X12_begins_1 (fun L2 g2 k2 => ?_)
  refine bg_2 (h0 := h0) (g := g) ?_ 16 x1 0 h0 hx1 (by omega) (by omega) hT0 (fun _ _ => rfl) (fun i hi => absurd hi (by omega)) L2 (k2 0 _ (by decide) (fun q => absurd q (by decide)) rfl) (k2 1 _ (by decide) (fun _ => rfl) rfl) g2
  intro h L hT hF hz q0 q1
  refine ex_al oq_X12_begins_21 q0 ?_
  refine ex_gf oq_X12_begins_22 hT (k := 111) (d := 12) rfl rfl (fr_now hT) ?_
  refine ex_bi oq_X12_begins_25 (m := 6) (by decide) (fun i0 hi0 => ?_)
  refine ex_al oq_X12_begins_27 q0 ?_
  refine ex_gf oq_X12_begins_28 hT (k := 111) (d := 12) rfl rfl (fr_gateHas hT) ?_
  refine ex_bi oq_X12_begins_31 (m := 16) (by decide) (fun a0 ha0 => ?_)
  refine ex_il oq_X12_begins_33 q1 ?_
  refine ex_mul oq_X12_begins_34 (m := 16 * g.toInt) (by rw [ha0]) (by omega) (fun b0 hb0 => ?_)
  refine ex_bi oq_X12_begins_35 (m := 7) (by decide) (fun c0 hc0 => ?_)
  refine ex_add oq_X12_begins_37 (by omega) (fun d0 hd0 => ?_)
  refine ex_iap oq_X12_begins_38 hT (k := 119) (d := 58) (j := 16 * gn + 7) rfl rfl (by omega) (by omega) (fun x0 hx0 => ?_)
  refine ex_iw1 oq_X12_begins_39 hT (k := 131) (d := 70) (j := 6) rfl rfl (by omega) (by omega) ⟨(cw_i32 _).1, (cw_i32 _).2⟩ (fun h1 hT1 w1 => ?_)
  have v0 : x0.toInt = ri_at h0 119 (16 * gn + 7) := hx0.symm.trans (cp_ri hF (by decide))
  refine ex_al oq_X12_begins_40 q0 ?_
  refine ex_gf oq_X12_begins_41 hT1 (k := 111) (d := 12) rfl rfl (fr_now hT1) ?_
  refine ex_bi oq_X12_begins_44 (m := 7) (by decide) (fun i1 hi1 => ?_)
  refine ex_al oq_X12_begins_46 q0 ?_
  refine ex_gf oq_X12_begins_47 hT1 (k := 111) (d := 12) rfl rfl (fr_gateHas hT1) ?_
  refine ex_bi oq_X12_begins_50 (m := 16) (by decide) (fun a1 ha1 => ?_)
  refine ex_il oq_X12_begins_52 q1 ?_
  refine ex_mul oq_X12_begins_53 (m := 16 * g.toInt) (by rw [ha1]) (by omega) (fun b1 hb1 => ?_)
  refine ex_bi oq_X12_begins_54 (m := 9) (by decide) (fun c1 hc1 => ?_)
  refine ex_add oq_X12_begins_56 (by omega) (fun d1 hd1 => ?_)
  refine ex_iap oq_X12_begins_57 hT1 (k := 119) (d := 58) (j := 16 * gn + 9) rfl rfl (by omega) (by omega) (fun x1 hx1 => ?_)
  refine ex_iw1 oq_X12_begins_58 hT1 (k := 131) (d := 70) (j := 7) rfl rfl (by omega) (by omega) ⟨(cw_i32 _).1, (cw_i32 _).2⟩ (fun h2 hT2 w2 => ?_)
  have v1 : x1.toInt = ri_at h0 119 (16 * gn + 9) := hx1.symm.trans ((ri_ne w1 (.inl (by decide))).trans (cp_ri hF (by decide)))
  refine ex_al oq_X12_begins_59 q0 ?_
  refine ex_gf oq_X12_begins_60 hT2 (k := 111) (d := 12) rfl rfl (fr_now hT2) ?_
  refine ex_bi oq_X12_begins_63 (m := 8) (by decide) (fun i2 hi2 => ?_)
  refine ex_al oq_X12_begins_65 q0 ?_
  refine ex_gf oq_X12_begins_66 hT2 (k := 111) (d := 12) rfl rfl (fr_gateHas hT2) ?_
  refine ex_bi oq_X12_begins_69 (m := 16) (by decide) (fun a2 ha2 => ?_)
  refine ex_il oq_X12_begins_71 q1 ?_
  refine ex_mul oq_X12_begins_72 (m := 16 * g.toInt) (by rw [ha2]) (by omega) (fun b2 hb2 => ?_)
  refine ex_bi oq_X12_begins_73 (m := 12) (by decide) (fun c2 hc2 => ?_)
  refine ex_add oq_X12_begins_75 (by omega) (fun d2 hd2 => ?_)
  refine ex_iap oq_X12_begins_76 hT2 (k := 119) (d := 58) (j := 16 * gn + 12) rfl rfl (by omega) (by omega) (fun x2 hx2 => ?_)
  refine ex_iw1 oq_X12_begins_77 hT2 (k := 131) (d := 70) (j := 8) rfl rfl (by omega) (by omega) ⟨(cw_i32 _).1, (cw_i32 _).2⟩ (fun h3 hT3 w3 => ?_)
  have v2 : x2.toInt = ri_at h0 119 (16 * gn + 12) := hx2.symm.trans ((ri_ne w2 (.inl (by decide))).trans ((ri_ne w1 (.inl (by decide))).trans (cp_ri hF (by decide))))
  refine ex_al oq_X12_begins_78 q0 ?_
  refine ex_gf oq_X12_begins_79 hT3 (k := 111) (d := 12) rfl rfl (fr_now hT3) ?_
  refine ex_bi oq_X12_begins_82 (m := 10) (by decide) (fun i3 hi3 => ?_)
  refine ex_al oq_X12_begins_84 q0 ?_
  refine ex_gf oq_X12_begins_85 hT3 (k := 111) (d := 12) rfl rfl (fr_gateHas hT3) ?_
  refine ex_bi oq_X12_begins_88 (m := 16) (by decide) (fun a3 ha3 => ?_)
  refine ex_il oq_X12_begins_90 q1 ?_
  refine ex_mul oq_X12_begins_91 (m := 16 * g.toInt) (by rw [ha3]) (by omega) (fun b3 hb3 => ?_)
  refine ex_bi oq_X12_begins_92 (m := 14) (by decide) (fun c3 hc3 => ?_)
  refine ex_add oq_X12_begins_94 (by omega) (fun d3 hd3 => ?_)
  refine ex_iap oq_X12_begins_95 hT3 (k := 119) (d := 58) (j := 16 * gn + 14) rfl rfl (by omega) (by omega) (fun x3 hx3 => ?_)
  refine ex_iw1 oq_X12_begins_96 hT3 (k := 131) (d := 70) (j := 10) rfl rfl (by omega) (by omega) ⟨(cw_i32 _).1, (cw_i32 _).2⟩ (fun h4 hT4 w4 => ?_)
  have v3 : x3.toInt = ri_at h0 119 (16 * gn + 14) := hx3.symm.trans ((ri_ne w3 (.inl (by decide))).trans ((ri_ne w2 (.inl (by decide))).trans ((ri_ne w1 (.inl (by decide))).trans (cp_ri hF (by decide)))))
  refine ex_retv oq_X12_begins_97 rfl (hQ h4 hT4 (fun k hk => ((w4.2.2 k hk).trans ((w3.2.2 k hk).trans ((w2.2.2 k hk).trans (w1.2.2 k hk)))).trans (hF k hk)) (fun k hk => ?_))
  unfold zBg
  by_cases c10 : k = 10
  · subst c10
    rw [if_neg (by decide), if_neg (by decide), if_neg (by decide), if_pos rfl, ri_self w4]
    exact v3
  rw [ri_ne w4 (.inr c10)]
  by_cases c8 : k = 8
  · subst c8
    rw [if_neg (by decide), if_neg (by decide), if_pos rfl, ri_self w3]
    exact v2
  rw [ri_ne w3 (.inr c8)]
  by_cases c7 : k = 7
  · subst c7
    rw [if_neg (by decide), if_pos rfl, ri_self w2]
    exact v1
  rw [ri_ne w2 (.inr c7)]
  by_cases c6 : k = 6
  · subst c6
    rw [if_pos rfl, ri_self w1]
    exact v0
  rw [ri_ne w1 (.inr c6), if_neg c6, if_neg c7, if_neg c8, if_neg c10]
  exact hz k hk
/-- the gates' states at their start -/
def zSB (h : cv_H) (n : Nat) (T : Nat → Nat → Int) : Prop := ∀ g, g < n → ∀ k, k < 16 → ri_at h 130 (16 * g + k) = zBg (T g) k
theorem kd_2 {h0 : cv_H} (kk : ∀ h L, cw_T G h → (∀ k : Nat, k ≠ 130 → k ≠ 131 → h[k]? = h0[k]?) → zSB h 4 (fun g i => ri_at h0 119 (16 * g + i)) → cv_get L 0 = some (cv_r 111) → cw_X X 173 Q 207 L [] h) : ∀ (M : Nat) (k : Int32) (kn : Nat) (h : cv_H), k.toInt = kn → kn ≤ 4 → 4 - kn ≤ M → cw_T G h → (∀ k : Nat, k ≠ 130 → k ≠ 131 → h[k]? = h0[k]?) → zSB h kn (fun g i => ri_at h0 119 (16 * g + i)) → ∀ L : cv_L, cv_get L 0 = some (cv_r 111) → cv_get L 1 = some (cv_i k) → cw_X X 173 Q 175 L [] h := by
  intro M
  induction M with
  | zero =>
    intro k kn h e1 e2 e3 hT hF a1 L q0 q1
    refine ex_il oq_X12_keepText_175 q1 ?_
    refine ex_ic oq_X12_keepText_176 (m := 4) (by decide) (fun x0 hx0 => ?_)
    refine ex_if oq_X12_keepText_177 (t := 207) rfl rfl (fun (c1 : x0.toInt ≤ k.toInt) => ?_) (fun (c1 : ¬ (x0.toInt ≤ k.toInt)) => ?_)
    · have ek : kn = 4 := by omega
      subst ek
      exact kk h L hT hF a1 q0
    · exfalso; omega
  | succ M ih =>
    intro k kn h e1 e2 e3 hT hF a1 L q0 q1
    refine ex_il oq_X12_keepText_175 q1 ?_
    refine ex_ic oq_X12_keepText_176 (m := 4) (by decide) (fun x0 hx0 => ?_)
    refine ex_if oq_X12_keepText_177 (t := 207) rfl rfl (fun (c1 : x0.toInt ≤ k.toInt) => ?_) (fun (c1 : ¬ (x0.toInt ≤ k.toInt)) => ?_)
    · have ek : kn = 4 := by omega
      subst ek
      exact kk h L hT hF a1 q0
    · refine ex_al oq_X12_keepText_180 q0 ?_
      refine ex_il oq_X12_keepText_181 q1 ?_
      refine ex_cv oq_X12_keepText_182 (by decide) hT (k := 111) (d := 12) (as := [cv_i k]) (stk := []) rfl rfl rfl rfl rfl rfl ⟨rfl, rfl⟩ (R := fun o => ∃ hb : cv_H, o = (none, hb) ∧ cw_T G hb ∧ cp_F 131 h hb ∧ ∀ i, i < 16 → ri_at hb 131 i = zBg (fun i => ri_at h 119 (16 * kn + i)) i) (rt_begins hT e1 (by omega) (fun hb b1 b2 b3 => ⟨hb, rfl, b1, b2, b3⟩)) (fun o ho => ?_)
      obtain ⟨h1, rfl, T1, F1, B1⟩ := ho
      show cw_X _ _ _ _ _ [] h1
      refine ex_al oq_X12_keepText_185 q0 ?_
      refine ex_gf oq_X12_keepText_186 T1 (k := 111) (d := 12) rfl rfl (fr_state T1) ?_
      refine ex_bi oq_X12_keepText_189 (m := 16) (by decide) (fun x2 hx2 => ?_)
      refine ex_il oq_X12_keepText_191 q1 ?_
      refine ex_mul oq_X12_keepText_192 (m := 16 * k.toInt) (by rw [hx2]) (by omega) (fun x3 hx3 => ?_)
      refine ex_al oq_X12_keepText_193 q0 ?_
      refine ex_gf oq_X12_keepText_194 T1 (k := 111) (d := 12) rfl rfl (fr_now T1) ?_
      refine ex_ic oq_X12_keepText_197 (m := 0) (by decide) (fun x4 hx4 => ?_)
      refine ex_cs oq_X12_keepText_198 (by decide) (as := [cv_r 130, cv_i x3, cv_r 131, cv_i x4]) (stk := []) rfl rfl rfl ⟨rfl, rfl⟩ (R := fun o => ∃ hb : cv_H, o = (none, hb) ∧ cw_T G hb ∧ cp_F 130 h1 hb ∧ (∀ i, i < 16 → ri_at hb 130 (16 * kn + i) = ri_at h1 131 (0 + i)) ∧ ∀ i, (i < 16 * kn ∨ 16 * kn + 16 ≤ i) → ri_at hb 130 i = ri_at h1 130 i) (rt_lays T1 (d1 := 69) (d2 := 70) rfl rfl rfl rfl (by decide) (by omega) (by omega) (by omega) (by omega) (by decide) (by decide) (fun _ _ _ _ hr => free1 hr) (fun hb b1 b2 b3 b4 => ⟨hb, rfl, b1, b2, b3, b4⟩)) (fun o ho => ?_)
      obtain ⟨h2, rfl, T2, F2, B2, N2⟩ := ho
      show cw_X _ _ _ _ _ [] h2
      refine ex_incA oq_X12_keepText_201 (v := k) (m := 1) q1 (by decide) (by omega) (fun L2 x5 hx5 g2 k2 => ?_)
      refine ex_go oq_X12_keepText_204 (t := 175) rfl rfl ?_
      refine ih x5 (kn + 1) h2 (by omega) (by omega) (by omega) T2 (fun k' q130 q131 => (F2 k' q130).trans ((F1 k' q131).trans (hF k' q130 q131))) (fun g hg j hj => ?_) L2 (k2 0 _ (by decide) (fun _ => rfl) q0) g2
      by_cases e : g = kn
      · subst e
        rw [B2 j hj, Nat.zero_add, B1 j hj]
        have ee : (fun i => ri_at h 119 (16 * g + i)) = fun i => ri_at h0 119 (16 * g + i) := by
          funext i
          unfold ri_at cw_at
          rw [hF 119 (by decide) (by decide)]
        rw [ee]
      · rw [N2 _ (by omega), cp_ri F1 (by decide)]
        exact a1 g (by omega) j hj
end SPM
