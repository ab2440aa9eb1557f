/-! ===== laws that are fresh, weeks that go by; the class ===== -/
theorem i32_nat {x : Int32} {m : Nat} (hx : x.toInt = m) : x.toBitVec.toNat = m := by
  have h := BitVec.toInt_eq_toNat_cond x.toBitVec
  have h2 : x.toBitVec.toInt = m := hx
  have h3 := x.toBitVec.isLt
  rw [h2] at h
  split at h <;> omega
theorem nat_i32 {x : Int32} {m : Nat} (hm : m < 2147483648) (h : x.toBitVec.toNat = m) : x.toInt = m := by
  show x.toBitVec.toInt = m
  rw [BitVec.toInt_eq_toNat_cond, h, if_pos (by omega)]
theorem and_i32 {x y : Int32} {m n : Nat} (hx : x.toInt = m) (hy : y.toInt = n) (hm : m < 2147483648) : (x &&& y).toInt = ((m &&& n : Nat) : Int) := by
  refine nat_i32 (Nat.lt_of_le_of_lt Nat.and_le_left hm) ?_
  rw [Int32.toBitVec_and, BitVec.toNat_and, i32_nat hx, i32_nat hy]
theorem and_bit {m n j : Nat} (h : m &&& n = 0) (hm : m.testBit j = true) : n.testBit j = false := by
  have e : (m &&& n).testBit j = false := by rw [h]; exact Nat.zero_testBit j
  rw [Nat.testBit_and, hm, Bool.true_and] at e
  exact e
/-- what a law adds, by its signs; none where it isn't told -/
def gLw (o : Option (List Int)) (N : Nat → Int) : Int := match o with
  | none => 0
  | some cs => gCl (zLV N cs)
theorem gLw_b {o : Option (List Int)} {N : Nat → Int} : 0 ≤ gLw o N ∧ gLw o N ≤ 9999 := by
  cases o with
  | none => exact ⟨Int.le_refl 0, (show (0 : Int) ≤ 9999 from by decide)⟩
  | some cs => exact gCl_b
/-- a law's signs that may be worked out -/
def zWf (cs : List Int) : Prop := 0 < cs.length ∧ (∀ c, c ∈ cs → 0 ≤ c ∧ c ≤ 20012 ∧ (c < 10010 ∨ 20000 ≤ c)) ∧ zdp 0 cs ∧ ∀ N S, zev N cs [] = some S → S.length = 1
/-- a law as the plan holds it -/
def zLw (h : cv_H) (RC RA RB RN l : Nat) (o : Option (List Int)) : Prop := match o with
  | none => ri_at h RB l ≤ ri_at h RA l
  | some cs => zWf cs ∧ ∃ a nm : Nat, ri_at h RA l = a ∧ ri_at h RB l = ((a + cs.length : Nat) : Int) ∧ a + cs.length ≤ 64 ∧ (∀ m, m < cs.length → ri_at h RC (a + m) = cs.getD m 0) ∧ ri_at h RN l = nm ∧ nm < 1024 ∧ ∀ j, j < 10 → zNu cs j → nm.testBit j = true
theorem zLw_eq {h h' : cv_H} {RC RA RB RN l : Nat} {o : Option (List Int)} (a : zLw h RC RA RB RN l o) (e : ∀ k i, (k = RC ∨ k = RA ∨ k = RB ∨ k = RN) → ri_at h' k i = ri_at h k i) : zLw h' RC RA RB RN l o := by
  cases o with
  | none =>
    show ri_at h' RB l ≤ ri_at h' RA l
    rw [e RB l (.inr (.inr (.inl rfl))), e RA l (.inr (.inl rfl))]
    exact a
  | some cs =>
    obtain ⟨w, x, nm, a1, a2, a3, a4, a5, a6, a7⟩ := a
    exact ⟨w, x, nm, (e RA l (.inr (.inl rfl))).trans a1, (e RB l (.inr (.inr (.inl rfl)))).trans a2, a3, fun m hm => (e RC _ (.inl rfl)).trans (a4 m hm), (e RN l (.inr (.inr (.inr rfl)))).trans a5, a6, a7⟩
/-- the growth that is kept of a law is right, or it will be worked out -/
def zCq (h : cv_H) (l : Nat) (o : Option (List Int)) (V : Nat → Int) : Prop := (ri_at h 55 3 = -1 ∧ (o = none → ri_at h 58 l = 0)) ∨ ri_at h 58 l = gLw o V
theorem zCq_n {h : cv_H} {l : Nat} {V : Nat → Int} (a : zCq h l none V) : ri_at h 58 l = 0 := by
  rcases a with a | a
  · exact a.2 rfl
  · exact a
theorem gCl_v {v x y : Int} (hx : x = 9999 ∧ x ≤ v ∨ x = v ∧ v ≤ 9999) (hy : y = 0 ∧ x ≤ 0 ∨ y = x ∧ 0 ≤ x) : y = gCl (some v) := by
  unfold gCl
  dsimp only
  repeat' split
  all_goals omega
/-- what refreshing a law may change -/
def zG3 (h h' : cv_H) : Prop := (∀ k : Nat, k ≠ 55 → k ≠ 57 → k ≠ 58 → h'[k]? = h[k]?) ∧ ∀ i, i ≠ 4 → cw_at h' 55 i = cw_at h 55 i
theorem zG3_0 {h : cv_H} : zG3 h h := ⟨fun _ _ _ _ => rfl, fun _ _ => rfl⟩
theorem zG3_tr {h h' h'' : cv_H} (a : zG3 h h') (b : zG3 h' h'') : zG3 h h'' := ⟨fun k p q r => (b.1 k p q r).trans (a.1 k p q r), fun i q => (b.2 i q).trans (a.2 i q)⟩
theorem zG3_w {h h' h'' : cv_H} {j : Nat} {v : cv_V} (a : zE h h') (w : cw_Wr h' h'' 58 j v) : zG3 h h'' := ⟨fun k p q r => (w.2.2 k r).trans (a.1 k p q), fun i q => (w.2.1 55 i (.inl (by decide))).trans (a.2 i q)⟩
theorem zG3_at {h0 h : cv_H} {k i : Nat} (a : zG3 h0 h) (p : k ≠ 55) (q : k ≠ 57) (r : k ≠ 58) : cw_at h k i = cw_at h0 k i := by unfold cw_at; rw [a.1 k p q r]
theorem zG3_ri {h0 h : cv_H} {k i : Nat} (a : zG3 h0 h) (p : k ≠ 55) (q : k ≠ 57) (r : k ≠ 58) : ri_at h k i = ri_at h0 k i := ri_eq (zG3_at a p q r)
section GN
variable {G : Int} {X : cv_X} {Q : cv_O → Prop} {h : cv_H}
theorem cg_isLaw {b RA RB : Nat} (hT : cw_T G h) (hb : cw_sh[b]? = some 4) (hRA : cw_sh[RA]? = some 30) (hRB : cw_sh[RB]? = some 31) (pA : cw_at h b 4 = some (cv_r RA)) (pB : cw_at h b 5 = some (cv_r RB)) {k : Int32} {l : Nat} (hk : k.toInt = l) (hl : l < 4) (hQ : ∀ x : Int32, (x.toInt = 1 ∧ ri_at h RA l < ri_at h RB l ∨ x.toInt = 0 ∧ ri_at h RB l ≤ ri_at h RA l) → Q (some (cv_i x), h)) : cw_X X 52 Q 0 (cv_ent 0 [cv_r b, cv_i k]) [] h := by
  refine ex_il oq_X4_isLaw_0 rfl ?_
  refine ex_if0 oq_X4_isLaw_1 (t := 28) rfl rfl (fun (c11 : k.toInt < 0) => ?_) (fun (c11 : ¬ (k.toInt < 0)) => ?_)
  · refine ex_ic oq_X4_isLaw_28 (m := 0) (by decide) (fun x12 hx12 => ?_)
    exact ex_retb oq_X4_isLaw_29 rfl (by omega) (by omega) (hQ x12 (by omega))
  · refine ex_il oq_X4_isLaw_4 rfl ?_
    refine ex_ic oq_X4_isLaw_5 (m := 4) (by decide) (fun x13 hx13 => ?_)
    refine ex_if oq_X4_isLaw_6 (t := 28) rfl rfl (fun (c14 : x13.toInt ≤ k.toInt) => ?_) (fun (c14 : ¬ (x13.toInt ≤ k.toInt)) => ?_)
    · exfalso; omega
    · refine ex_al oq_X4_isLaw_9 rfl ?_
      refine ex_gf oq_X4_isLaw_10 hT (k := b) (d := 4) hb rfl (pB) ?_
      refine ex_il oq_X4_isLaw_13 rfl ?_
      refine ex_ia1 oq_X4_isLaw_14 hT (k := RB) (d := 31) (j := l) hRB rfl (by omega) (by omega) (fun x15 hx15 lx15 ux15 => ?_)
      refine ex_al oq_X4_isLaw_15 rfl ?_
      refine ex_gf oq_X4_isLaw_16 hT (k := b) (d := 4) hb rfl (pA) ?_
      refine ex_il oq_X4_isLaw_19 rfl ?_
      refine ex_ia1 oq_X4_isLaw_20 hT (k := RA) (d := 30) (j := l) hRA rfl (by omega) (by omega) (fun x16 hx16 lx16 ux16 => ?_)
      refine ex_if oq_X4_isLaw_21 (t := 28) rfl rfl (fun (c17 : x15.toInt ≤ x16.toInt) => ?_) (fun (c17 : ¬ (x15.toInt ≤ x16.toInt)) => ?_)
      · refine ex_ic oq_X4_isLaw_28 (m := 0) (by decide) (fun x18 hx18 => ?_)
        exact ex_retb oq_X4_isLaw_29 rfl (by omega) (by omega) (hQ x18 (by omega))
      · refine ex_ic oq_X4_isLaw_24 (m := 1) (by decide) (fun x19 hx19 => ?_)
        refine ex_go oq_X4_isLaw_25 (t := 29) rfl rfl ?_
        exact ex_retb oq_X4_isLaw_29 rfl (by omega) (by omega) (hQ x19 (by omega))
theorem oq_X2_refresh_0 : cw_ho 33 0 (.aload_n 0) 1 0 0 0 := rfl
theorem oq_X2_refresh_1 : cw_ho 33 1 (.getfield 22) 3 2 3 0 := rfl
theorem oq_X2_refresh_4 : cw_ho 33 4 (.iconst (-1)) 1 0 0 0 := rfl
theorem oq_X2_refresh_5 : cw_ho 33 5 (.if_icmp .eq 17) 3 0 0 0 := rfl
theorem oq_X2_refresh_8 : cw_ho 33 8 (.aload_n 1) 1 0 0 0 := rfl
theorem oq_X2_refresh_9 : cw_ho 33 9 (.getfield 78) 3 4 6 4 := rfl
theorem oq_X2_refresh_12 : cw_ho 33 12 (.iload_n 2) 1 0 0 0 := rfl
theorem oq_X2_refresh_13 : cw_ho 33 13 (.iaload) 1 0 0 0 := rfl
theorem oq_X2_refresh_14 : cw_ho 33 14 (.aload_n 0) 1 0 0 0 := rfl
theorem oq_X2_refresh_15 : cw_ho 33 15 (.getfield 22) 3 2 3 0 := rfl
theorem oq_X2_refresh_18 : cw_ho 33 18 (.iand) 1 0 0 0 := rfl
theorem oq_X2_refresh_19 : cw_ho 33 19 (.ifCond .eq 7) 3 0 0 0 := rfl
theorem oq_X2_refresh_22 : cw_ho 33 22 (.iconst 1) 1 0 0 0 := rfl
theorem oq_X2_refresh_23 : cw_ho 33 23 (.goto 4) 3 0 0 0 := rfl
theorem oq_X2_refresh_26 : cw_ho 33 26 (.iconst 0) 1 0 0 0 := rfl
theorem oq_X2_refresh_27 : cw_ho 33 27 (.istore_n 3) 1 0 0 0 := rfl
theorem oq_X2_refresh_28 : cw_ho 33 28 (.iload_n 3) 1 0 0 0 := rfl
theorem oq_X2_refresh_29 : cw_ho 33 29 (.ifCond .eq 49) 3 0 0 0 := rfl
theorem oq_X2_refresh_32 : cw_ho 33 32 (.aload_n 1) 1 0 0 0 := rfl
theorem oq_X2_refresh_33 : cw_ho 33 33 (.iload_n 2) 1 0 0 0 := rfl
theorem oq_X2_refresh_34 : cw_ho 33 34 (.invokevirtual 81) 3 52 1 4 := rfl
theorem oq_X2_refresh_37 : cw_ho 33 37 (.ifCond .eq 41) 3 0 0 0 := rfl
theorem oq_X2_refresh_78 : cw_ho 33 78 (.return_) 1 0 0 0 := rfl
theorem cl_refreshN {b RC RA RB RN : Nat} (hb : cw_sh[b]? = some 4) (hRC : cw_sh[RC]? = some 29) (hRA : cw_sh[RA]? = some 30) (hRB : cw_sh[RB]? = some 31) (hRN : cw_sh[RN]? = some 32) (pC : cw_at h b 1 = some (cv_r RC)) (pA : cw_at h b 4 = some (cv_r RA)) (pB : cw_at h b 5 = some (cv_r RB)) (pN : cw_at h b 6 = some (cv_r RN)) (hT : cw_T G h) {k : Int32} {l : Nat} (hk : k.toInt = l) (hl : l < 3) {N V : Nat → Int} (hN : ∀ j, j < 10 → rl_at h 56 j = N j) (hNb : ∀ j, zbb (N j)) (hP : zLP h V) (ho : zLw h RC RA RB RN l none) (hc : zCq h l none V) (hQ : ∀ h', cw_T G h' → zG3 h h' → ri_at h' 58 l = gLw none N → (∀ i, i ≠ l → ri_at h' 58 i = ri_at h 58 i) → Q (none, h')) : cw_X X 33 Q 0 (cv_ent 0 [cv_r 55, cv_r b, cv_i k]) [] h := by
  obtain ⟨sv, hst⟩ : ∃ e, ri_at h 55 3 = e := ⟨_, rfl⟩
  have ho1 : ri_at h RB l ≤ ri_at h RA l := ho
  refine ex_al oq_X2_refresh_0 rfl ?_
  obtain ⟨x101, ax101, rx101, lx101, ux101⟩ := ri_fld (k := 55) (d := 2) (f := 3) hT rfl rfl rfl
  try dsimp only at lx101 ux101
  refine ex_gf oq_X2_refresh_1 hT (k := 55) (d := 2) rfl rfl ax101 ?_
  clear lx101 ux101
  have rx101 := (rx101.symm.trans hst : x101.toInt = sv)
  refine ex_ic oq_X2_refresh_4 (m := (-1)) (by decide) (fun x102 hx102 => ?_)
  refine ex_if oq_X2_refresh_5 (t := 22) rfl rfl (fun (c103 : x101.toInt = x102.toInt) => ?_) (fun (c103 : ¬ (x101.toInt = x102.toInt)) => ?_)
  · refine ex_ic oq_X2_refresh_22 (m := 1) (by decide) (fun x104 hx104 => ?_)
    refine ex_go oq_X2_refresh_23 (t := 27) rfl rfl ?_
    refine ex_isA oq_X2_refresh_27 (fun L105 gL105_3 kL105 => ?_)
    have gL105_0 : cv_get L105 0 = some (cv_r 55) := kL105 0 _ (by decide) (fun q => absurd q (by decide)) rfl
    have gL105_1 : cv_get L105 1 = some (cv_r b) := kL105 1 _ (by decide) (fun q => absurd q (by decide)) rfl
    have gL105_2 : cv_get L105 2 = some (cv_i k) := kL105 2 _ (by decide) (fun _ => rfl) rfl
    refine ex_il oq_X2_refresh_28 gL105_3 ?_
    refine ex_if0 oq_X2_refresh_29 (t := 78) rfl rfl (fun (c106 : x104.toInt = 0) => ?_) (fun (c106 : ¬ (x104.toInt = 0)) => ?_)
    · exfalso; omega
    · refine ex_al oq_X2_refresh_32 gL105_1 ?_
      refine ex_il oq_X2_refresh_33 gL105_2 ?_
      refine ex_cv oq_X2_refresh_34 (by decide) hT (k := b) (d := 4) (as := [cv_i k]) (stk := []) hb rfl rfl rfl rfl rfl ⟨rfl, rfl⟩ (R := fun o => ∃ x : Int32, o = (some (cv_i x), h) ∧ (x.toInt = 1 ∧ ri_at h RA l < ri_at h RB l ∨ x.toInt = 0 ∧ ri_at h RB l ≤ ri_at h RA l)) (cg_isLaw hT hb hRA hRB pA pB hk (by omega) (fun x q => ⟨x, rfl, q⟩)) (fun o ho => ?_)
      obtain ⟨x107, rfl, dx107⟩ := ho
      show cw_X _ _ _ _ _ [cv_i x107] h
      refine ex_if0 oq_X2_refresh_37 (t := 78) rfl rfl (fun (c108 : x107.toInt = 0) => ?_) (fun (c108 : ¬ (x107.toInt = 0)) => ?_)
      · exact ex_retv oq_X2_refresh_78 rfl (hQ h hT zG3_0 (zCq_n hc) (fun _ _ => rfl))
      · exfalso; omega
  · refine ex_al oq_X2_refresh_8 rfl ?_
    refine ex_gf oq_X2_refresh_9 hT (k := b) (d := 4) hb rfl (pN) ?_
    refine ex_il oq_X2_refresh_12 rfl ?_
    refine ex_ia1 oq_X2_refresh_13 hT (k := RN) (d := 32) (j := l) hRN rfl (by omega) (by omega) (fun x109 hx109 lx109 ux109 => ?_)
    refine ex_al oq_X2_refresh_14 rfl ?_
    obtain ⟨x110, ax110, rx110, lx110, ux110⟩ := ri_fld (k := 55) (d := 2) (f := 3) hT rfl rfl rfl
    try dsimp only at lx110 ux110
    refine ex_gf oq_X2_refresh_15 hT (k := 55) (d := 2) rfl rfl ax110 ?_
    clear lx110 ux110
    have rx110 := (rx110.symm.trans hst : x110.toInt = sv)
    refine ex_andE oq_X2_refresh_18 (fun x111 hx111 => ?_)
    refine ex_if0 oq_X2_refresh_19 (t := 26) rfl rfl (fun (c112 : x111.toInt = 0) => ?_) (fun (c112 : ¬ (x111.toInt = 0)) => ?_)
    · refine ex_ic oq_X2_refresh_26 (m := 0) (by decide) (fun x113 hx113 => ?_)
      refine ex_isA oq_X2_refresh_27 (fun L114 gL114_3 kL114 => ?_)
      have gL114_0 : cv_get L114 0 = some (cv_r 55) := kL114 0 _ (by decide) (fun q => absurd q (by decide)) rfl
      have gL114_1 : cv_get L114 1 = some (cv_r b) := kL114 1 _ (by decide) (fun q => absurd q (by decide)) rfl
      have gL114_2 : cv_get L114 2 = some (cv_i k) := kL114 2 _ (by decide) (fun _ => rfl) rfl
      refine ex_il oq_X2_refresh_28 gL114_3 ?_
      refine ex_if0 oq_X2_refresh_29 (t := 78) rfl rfl (fun (c115 : x113.toInt = 0) => ?_) (fun (c115 : ¬ (x113.toInt = 0)) => ?_)
      · exact ex_retv oq_X2_refresh_78 rfl (hQ h hT zG3_0 (zCq_n hc) (fun _ _ => rfl))
      · exfalso; omega
    · refine ex_ic oq_X2_refresh_22 (m := 1) (by decide) (fun x116 hx116 => ?_)
      refine ex_go oq_X2_refresh_23 (t := 27) rfl rfl ?_
      refine ex_isA oq_X2_refresh_27 (fun L117 gL117_3 kL117 => ?_)
      have gL117_0 : cv_get L117 0 = some (cv_r 55) := kL117 0 _ (by decide) (fun q => absurd q (by decide)) rfl
      have gL117_1 : cv_get L117 1 = some (cv_r b) := kL117 1 _ (by decide) (fun q => absurd q (by decide)) rfl
      have gL117_2 : cv_get L117 2 = some (cv_i k) := kL117 2 _ (by decide) (fun _ => rfl) rfl
      refine ex_il oq_X2_refresh_28 gL117_3 ?_
      refine ex_if0 oq_X2_refresh_29 (t := 78) rfl rfl (fun (c118 : x116.toInt = 0) => ?_) (fun (c118 : ¬ (x116.toInt = 0)) => ?_)
      · exfalso; omega
      · refine ex_al oq_X2_refresh_32 gL117_1 ?_
        refine ex_il oq_X2_refresh_33 gL117_2 ?_
        refine ex_cv oq_X2_refresh_34 (by decide) hT (k := b) (d := 4) (as := [cv_i k]) (stk := []) hb rfl rfl rfl rfl rfl ⟨rfl, rfl⟩ (R := fun o => ∃ x : Int32, o = (some (cv_i x), h) ∧ (x.toInt = 1 ∧ ri_at h RA l < ri_at h RB l ∨ x.toInt = 0 ∧ ri_at h RB l ≤ ri_at h RA l)) (cg_isLaw hT hb hRA hRB pA pB hk (by omega) (fun x q => ⟨x, rfl, q⟩)) (fun o ho => ?_)
        obtain ⟨x119, rfl, dx119⟩ := ho
        show cw_X _ _ _ _ _ [cv_i x119] h
        refine ex_if0 oq_X2_refresh_37 (t := 78) rfl rfl (fun (c120 : x119.toInt = 0) => ?_) (fun (c120 : ¬ (x119.toInt = 0)) => ?_)
        · exact ex_retv oq_X2_refresh_78 rfl (hQ h hT zG3_0 (zCq_n hc) (fun _ _ => rfl))
        · exfalso; omega
theorem oq_X2_refresh_40 : cw_ho 33 40 (.aload_n 0) 1 0 0 0 := rfl
theorem oq_X2_refresh_41 : cw_ho 33 41 (.aload_n 1) 1 0 0 0 := rfl
theorem oq_X2_refresh_42 : cw_ho 33 42 (.iload_n 2) 1 0 0 0 := rfl
theorem oq_X2_refresh_43 : cw_ho 33 43 (.invokevirtual 85) 3 34 2 2 := rfl
theorem oq_X2_refresh_46 : cw_ho 33 46 (.lstore 4) 2 0 0 0 := rfl
theorem oq_X2_refresh_48 : cw_ho 33 48 (.aload_n 0) 1 0 0 0 := rfl
theorem oq_X2_refresh_49 : cw_ho 33 49 (.getfield 18) 3 2 2 4 := rfl
theorem oq_X2_refresh_52 : cw_ho 33 52 (.iload_n 2) 1 0 0 0 := rfl
theorem oq_X2_refresh_53 : cw_ho 33 53 (.aload_n 0) 1 0 0 0 := rfl
theorem oq_X2_refresh_54 : cw_ho 33 54 (.getfield 89) 3 2 4 2 := rfl
theorem oq_X2_refresh_57 : cw_ho 33 57 (.ifCond .eq 7) 3 0 0 0 := rfl
theorem oq_X2_refresh_60 : cw_ho 33 60 (.iconst 0) 1 0 0 0 := rfl
theorem oq_X2_refresh_61 : cw_ho 33 61 (.goto 16) 3 0 0 0 := rfl
theorem oq_X2_refresh_64 : cw_ho 33 64 (.lconst 0) 1 0 0 0 := rfl
theorem oq_X2_refresh_65 : cw_ho 33 65 (.ldc2_w 93) 3 0 0 9999 := rfl
theorem oq_X2_refresh_68 : cw_ho 33 68 (.lload 4) 2 0 0 0 := rfl
theorem oq_X2_refresh_70 : cw_ho 33 70 (.invokestatic 95) 3 9005 2 0 := rfl
theorem oq_X2_refresh_73 : cw_ho 33 73 (.invokestatic 101) 3 9004 2 0 := rfl
theorem oq_X2_refresh_76 : cw_ho 33 76 (.l2i) 1 0 0 0 := rfl
theorem oq_X2_refresh_77 : cw_ho 33 77 (.iastore) 1 0 0 0 := rfl
theorem cl_refreshT {b RC RA RB RN : Nat} (hb : cw_sh[b]? = some 4) (hRC : cw_sh[RC]? = some 29) (hRA : cw_sh[RA]? = some 30) (hRB : cw_sh[RB]? = some 31) (hRN : cw_sh[RN]? = some 32) (pC : cw_at h b 1 = some (cv_r RC)) (pA : cw_at h b 4 = some (cv_r RA)) (pB : cw_at h b 5 = some (cv_r RB)) (pN : cw_at h b 6 = some (cv_r RN)) (hT : cw_T G h) {cs : List Int} {k : Int32} {l : Nat} (hk : k.toInt = l) (hl : l < 3) {N V : Nat → Int} (hN : ∀ j, j < 10 → rl_at h 56 j = N j) (hNb : ∀ j, zbb (N j)) (hP : zLP h V) (ho : zLw h RC RA RB RN l (some cs)) (hc : zCq h l (some cs) V) (hQ : ∀ h', cw_T G h' → zG3 h h' → ri_at h' 58 l = gLw (some cs) N → (∀ i, i ≠ l → ri_at h' 58 i = ri_at h 58 i) → Q (none, h')) : cw_X X 33 Q 0 (cv_ent 0 [cv_r 55, cv_r b, cv_i k]) [] h := by
  obtain ⟨sv, hst⟩ : ∃ e, ri_at h 55 3 = e := ⟨_, rfl⟩
  obtain ⟨hwf, a, nm, a1, a2, a3, a4, a5, a6, a7⟩ := ho
  have hw0 := hwf.1
  refine ex_al oq_X2_refresh_0 rfl ?_
  obtain ⟨x101, ax101, rx101, lx101, ux101⟩ := ri_fld (k := 55) (d := 2) (f := 3) hT rfl rfl rfl
  try dsimp only at lx101 ux101
  refine ex_gf oq_X2_refresh_1 hT (k := 55) (d := 2) rfl rfl ax101 ?_
  clear lx101 ux101
  have rx101 := (rx101.symm.trans hst : x101.toInt = sv)
  refine ex_ic oq_X2_refresh_4 (m := (-1)) (by decide) (fun x102 hx102 => ?_)
  refine ex_if oq_X2_refresh_5 (t := 22) rfl rfl (fun (c103 : x101.toInt = x102.toInt) => ?_) (fun (c103 : ¬ (x101.toInt = x102.toInt)) => ?_)
  · refine ex_ic oq_X2_refresh_22 (m := 1) (by decide) (fun x104 hx104 => ?_)
    refine ex_go oq_X2_refresh_23 (t := 27) rfl rfl ?_
    refine ex_isA oq_X2_refresh_27 (fun L105 gL105_3 kL105 => ?_)
    have gL105_0 : cv_get L105 0 = some (cv_r 55) := kL105 0 _ (by decide) (fun q => absurd q (by decide)) rfl
    have gL105_1 : cv_get L105 1 = some (cv_r b) := kL105 1 _ (by decide) (fun q => absurd q (by decide)) rfl
    have gL105_2 : cv_get L105 2 = some (cv_i k) := kL105 2 _ (by decide) (fun _ => rfl) rfl
    refine ex_il oq_X2_refresh_28 gL105_3 ?_
    refine ex_if0 oq_X2_refresh_29 (t := 78) rfl rfl (fun (c106 : x104.toInt = 0) => ?_) (fun (c106 : ¬ (x104.toInt = 0)) => ?_)
    · exfalso; omega
    · refine ex_al oq_X2_refresh_32 gL105_1 ?_
      refine ex_il oq_X2_refresh_33 gL105_2 ?_
      refine ex_cv oq_X2_refresh_34 (by decide) hT (k := b) (d := 4) (as := [cv_i k]) (stk := []) hb rfl rfl rfl rfl rfl ⟨rfl, rfl⟩ (R := fun o => ∃ x : Int32, o = (some (cv_i x), h) ∧ (x.toInt = 1 ∧ ri_at h RA l < ri_at h RB l ∨ x.toInt = 0 ∧ ri_at h RB l ≤ ri_at h RA l)) (cg_isLaw hT hb hRA hRB pA pB hk (by omega) (fun x q => ⟨x, rfl, q⟩)) (fun o ho => ?_)
      obtain ⟨x107, rfl, dx107⟩ := ho
      show cw_X _ _ _ _ _ [cv_i x107] h
      refine ex_if0 oq_X2_refresh_37 (t := 78) rfl rfl (fun (c108 : x107.toInt = 0) => ?_) (fun (c108 : ¬ (x107.toInt = 0)) => ?_)
      · exfalso; omega
      · refine ex_al oq_X2_refresh_40 gL105_0 ?_
        refine ex_al oq_X2_refresh_41 gL105_1 ?_
        refine ex_il oq_X2_refresh_42 gL105_2 ?_
        refine ex_cv oq_X2_refresh_43 (by decide) hT (k := 55) (d := 2) (as := [cv_r b, cv_i k]) (stk := []) rfl rfl rfl rfl rfl rfl ⟨rfl, rfl⟩ (R := fun o => ∃ (y : Int64) (hb : cv_H), o = (some (cv_l y), hb) ∧ cw_T G hb ∧ zE h hb ∧ (ri_at hb 55 4 = 0 ∧ zLV N cs = some y.toInt ∨ ri_at hb 55 4 = 1 ∧ zLV N cs = none)) (cl_workOut hT hwf.2.2.1 hb hRC hRA hRB pC pA pB (by omega) (by rw [show k.toInt.toNat = l from by omega]; exact a1) (by rw [show k.toInt.toNat = l from by omega]; exact a2) a3 a4 hwf.2.1 hN hNb (hwf.2.2.2 N) (fun y hb b1 b2 b3 => ⟨y, hb, rfl, b1, b2, b3⟩)) (fun o ho => ?_)
        obtain ⟨x109, h110, rfl, Th110, zh110, dx109⟩ := ho
        show cw_X _ _ _ _ _ [cv_l x109] h110
        obtain ⟨er, her⟩ : ∃ e, ri_at h110 55 4 = e := ⟨_, rfl⟩
        rw [her] at dx109
        refine ex_lswA oq_X2_refresh_46 (fun L111 gL111_4 kL111 => ?_)
        have gL111_3 : cv_get L111 3 = some (cv_i x104) := kL111 3 _ (by decide) (by decide) (fun _ => rfl) gL105_3
        have gL111_0 : cv_get L111 0 = some (cv_r 55) := kL111 0 _ (by decide) (by decide) (fun q => absurd q (by decide)) gL105_0
        have gL111_1 : cv_get L111 1 = some (cv_r b) := kL111 1 _ (by decide) (by decide) (fun q => absurd q (by decide)) gL105_1
        have gL111_2 : cv_get L111 2 = some (cv_i k) := kL111 2 _ (by decide) (by decide) (fun q => absurd q (by decide)) gL105_2
        refine ex_al oq_X2_refresh_48 gL111_0 ?_
        refine ex_gf oq_X2_refresh_49 Th110 (k := 55) (d := 2) rfl rfl (ri_ref (k := 55) (k' := 58) (d := 2) (f := 2) Th110 rfl rfl rfl (by decide) (ri_uniq (by decide +kernel))) ?_
        refine ex_il oq_X2_refresh_52 gL111_2 ?_
        refine ex_al oq_X2_refresh_53 gL111_0 ?_
        obtain ⟨x112, ax112, rx112, lx112, ux112⟩ := ri_fld (k := 55) (d := 2) (f := 4) Th110 rfl rfl rfl
        try dsimp only at lx112 ux112
        refine ex_gf oq_X2_refresh_54 Th110 (k := 55) (d := 2) rfl rfl ax112 ?_
        have rx112 := (rx112.symm.trans her : x112.toInt = er)
        refine ex_if0 oq_X2_refresh_57 (t := 64) rfl rfl (fun (c113 : x112.toInt = 0) => ?_) (fun (c113 : ¬ (x112.toInt = 0)) => ?_)
        · refine ex_lc oq_X2_refresh_64 (m := 0) (by decide) (fun x114 hx114 => ?_)
          refine ex_ldc2V oq_X2_refresh_65 (m := 9999) (by decide) (fun x115 hx115 => ?_)
          refine ex_llw oq_X2_refresh_68 gL111_4 ?_
          refine ex_minL oq_X2_refresh_70 (by decide) (Nat.le_of_ble_eq_true rfl) (fun x116 hx116 => ?_)
          refine ex_maxL oq_X2_refresh_73 (by decide) (Nat.le_of_ble_eq_true rfl) (fun x117 hx117 => ?_)
          refine ex_l2iV oq_X2_refresh_76 (by omega) (fun x118 hx118 => ?_)
          refine ex_iw1 oq_X2_refresh_77 Th110 (k := 58) (d := 19) (j := l) rfl rfl (by omega) (by omega) ⟨(cw_i32 _).1, (cw_i32 _).2⟩ (fun h119 Th119 wh119 => ?_)
          have eh119_55_4 : ri_at h119 55 4 = er := (ri_ne wh119 (.inl (by decide))).trans her
          refine ex_retv oq_X2_refresh_78 rfl (hQ h119 Th119 (zG3_w zh110 wh119) ?_ (fun i hi => (ri_ne wh119 (.inr hi)).trans (zE_ri zh110 (by decide) (by decide))))
          rw [ri_self wh119]
          rcases dx109 with ⟨d1, d2⟩ | ⟨d1, d2⟩
          · show _ = gCl (zLV N cs)
            rw [d2]
            exact gCl_v (x := x116.toInt) (by omega) (by omega)
          · exfalso; omega
        · refine ex_ic oq_X2_refresh_60 (m := 0) (by decide) (fun x120 hx120 => ?_)
          refine ex_go oq_X2_refresh_61 (t := 77) rfl rfl ?_
          refine ex_iw1 oq_X2_refresh_77 Th110 (k := 58) (d := 19) (j := l) rfl rfl (by omega) (by omega) ⟨(cw_i32 _).1, (cw_i32 _).2⟩ (fun h121 Th121 wh121 => ?_)
          have eh121_55_4 : ri_at h121 55 4 = er := (ri_ne wh121 (.inl (by decide))).trans her
          refine ex_retv oq_X2_refresh_78 rfl (hQ h121 Th121 (zG3_w zh110 wh121) ?_ (fun i hi => (ri_ne wh121 (.inr hi)).trans (zE_ri zh110 (by decide) (by decide))))
          rw [ri_self wh121]
          rcases dx109 with ⟨d1, d2⟩ | ⟨d1, d2⟩
          · exfalso; omega
          · show _ = gCl (zLV N cs)
            rw [d2]
            show _ = (0 : Int)
            omega
  · refine ex_al oq_X2_refresh_8 rfl ?_
    refine ex_gf oq_X2_refresh_9 hT (k := b) (d := 4) hb rfl (pN) ?_
    refine ex_il oq_X2_refresh_12 rfl ?_
    refine ex_ia1 oq_X2_refresh_13 hT (k := RN) (d := 32) (j := l) hRN rfl (by omega) (by omega) (fun x122 hx122 lx122 ux122 => ?_)
    have hx122 : x122.toInt = (nm : Int) := hx122.symm.trans a5
    refine ex_al oq_X2_refresh_14 rfl ?_
    obtain ⟨x123, ax123, rx123, lx123, ux123⟩ := ri_fld (k := 55) (d := 2) (f := 3) hT rfl rfl rfl
    try dsimp only at lx123 ux123
    refine ex_gf oq_X2_refresh_15 hT (k := 55) (d := 2) rfl rfl ax123 ?_
    clear lx123 ux123
    have rx123 := (rx123.symm.trans hst : x123.toInt = sv)
    refine ex_andE oq_X2_refresh_18 (fun x124 hx124 => ?_)
    refine ex_if0 oq_X2_refresh_19 (t := 26) rfl rfl (fun (c125 : x124.toInt = 0) => ?_) (fun (c125 : ¬ (x124.toInt = 0)) => ?_)
    · refine ex_ic oq_X2_refresh_26 (m := 0) (by decide) (fun x126 hx126 => ?_)
      refine ex_isA oq_X2_refresh_27 (fun L127 gL127_3 kL127 => ?_)
      have gL127_0 : cv_get L127 0 = some (cv_r 55) := kL127 0 _ (by decide) (fun q => absurd q (by decide)) rfl
      have gL127_1 : cv_get L127 1 = some (cv_r b) := kL127 1 _ (by decide) (fun q => absurd q (by decide)) rfl
      have gL127_2 : cv_get L127 2 = some (cv_i k) := kL127 2 _ (by decide) (fun _ => rfl) rfl
      refine ex_il oq_X2_refresh_28 gL127_3 ?_
      refine ex_if0 oq_X2_refresh_29 (t := 78) rfl rfl (fun (c128 : x126.toInt = 0) => ?_) (fun (c128 : ¬ (x126.toInt = 0)) => ?_)
      · refine ex_retv oq_X2_refresh_78 rfl (hQ h hT zG3_0 ?_ (fun _ _ => rfl))
        rcases hc with hc | hc
        · exfalso; omega
        rcases hP with hP | ⟨S, hS, hS2, hS3⟩
        · exfalso; omega
        rw [hc]
        show gCl (zLV V cs) = gCl (zLV N cs)
        have hz : nm &&& S = 0 := by
          have e := and_i32 (x := x122) (y := x123) (m := nm) (n := S) (by omega) (by omega) (by omega)
          rw [← hx124] at e
          omega
        refine congrArg gCl (zLV_N (fun j hl hj => ?_))
        have hj10 : j < 10 := by have := hwf.2.1 _ hj; omega
        rw [← hS3 j hj10 (and_bit hz (a7 j hj10 hj))]
        exact hN j hj10
      · exfalso; omega
    · refine ex_ic oq_X2_refresh_22 (m := 1) (by decide) (fun x129 hx129 => ?_)
      refine ex_go oq_X2_refresh_23 (t := 27) rfl rfl ?_
      refine ex_isA oq_X2_refresh_27 (fun L130 gL130_3 kL130 => ?_)
      have gL130_0 : cv_get L130 0 = some (cv_r 55) := kL130 0 _ (by decide) (fun q => absurd q (by decide)) rfl
      have gL130_1 : cv_get L130 1 = some (cv_r b) := kL130 1 _ (by decide) (fun q => absurd q (by decide)) rfl
      have gL130_2 : cv_get L130 2 = some (cv_i k) := kL130 2 _ (by decide) (fun _ => rfl) rfl
      refine ex_il oq_X2_refresh_28 gL130_3 ?_
      refine ex_if0 oq_X2_refresh_29 (t := 78) rfl rfl (fun (c131 : x129.toInt = 0) => ?_) (fun (c131 : ¬ (x129.toInt = 0)) => ?_)
      · exfalso; omega
      · refine ex_al oq_X2_refresh_32 gL130_1 ?_
        refine ex_il oq_X2_refresh_33 gL130_2 ?_
        refine ex_cv oq_X2_refresh_34 (by decide) hT (k := b) (d := 4) (as := [cv_i k]) (stk := []) hb rfl rfl rfl rfl rfl ⟨rfl, rfl⟩ (R := fun o => ∃ x : Int32, o = (some (cv_i x), h) ∧ (x.toInt = 1 ∧ ri_at h RA l < ri_at h RB l ∨ x.toInt = 0 ∧ ri_at h RB l ≤ ri_at h RA l)) (cg_isLaw hT hb hRA hRB pA pB hk (by omega) (fun x q => ⟨x, rfl, q⟩)) (fun o ho => ?_)
        obtain ⟨x132, rfl, dx132⟩ := ho
        show cw_X _ _ _ _ _ [cv_i x132] h
        refine ex_if0 oq_X2_refresh_37 (t := 78) rfl rfl (fun (c133 : x132.toInt = 0) => ?_) (fun (c133 : ¬ (x132.toInt = 0)) => ?_)
        · exfalso; omega
        · refine ex_al oq_X2_refresh_40 gL130_0 ?_
          refine ex_al oq_X2_refresh_41 gL130_1 ?_
          refine ex_il oq_X2_refresh_42 gL130_2 ?_
          refine ex_cv oq_X2_refresh_43 (by decide) hT (k := 55) (d := 2) (as := [cv_r b, cv_i k]) (stk := []) rfl rfl rfl rfl rfl rfl ⟨rfl, rfl⟩ (R := fun o => ∃ (y : Int64) (hb : cv_H), o = (some (cv_l y), hb) ∧ cw_T G hb ∧ zE h hb ∧ (ri_at hb 55 4 = 0 ∧ zLV N cs = some y.toInt ∨ ri_at hb 55 4 = 1 ∧ zLV N cs = none)) (cl_workOut hT hwf.2.2.1 hb hRC hRA hRB pC pA pB (by omega) (by rw [show k.toInt.toNat = l from by omega]; exact a1) (by rw [show k.toInt.toNat = l from by omega]; exact a2) a3 a4 hwf.2.1 hN hNb (hwf.2.2.2 N) (fun y hb b1 b2 b3 => ⟨y, hb, rfl, b1, b2, b3⟩)) (fun o ho => ?_)
          obtain ⟨x134, h135, rfl, Th135, zh135, dx134⟩ := ho
          show cw_X _ _ _ _ _ [cv_l x134] h135
          obtain ⟨er, her⟩ : ∃ e, ri_at h135 55 4 = e := ⟨_, rfl⟩
          rw [her] at dx134
          refine ex_lswA oq_X2_refresh_46 (fun L136 gL136_4 kL136 => ?_)
          have gL136_3 : cv_get L136 3 = some (cv_i x129) := kL136 3 _ (by decide) (by decide) (fun _ => rfl) gL130_3
          have gL136_0 : cv_get L136 0 = some (cv_r 55) := kL136 0 _ (by decide) (by decide) (fun q => absurd q (by decide)) gL130_0
          have gL136_1 : cv_get L136 1 = some (cv_r b) := kL136 1 _ (by decide) (by decide) (fun q => absurd q (by decide)) gL130_1
          have gL136_2 : cv_get L136 2 = some (cv_i k) := kL136 2 _ (by decide) (by decide) (fun q => absurd q (by decide)) gL130_2
          refine ex_al oq_X2_refresh_48 gL136_0 ?_
          refine ex_gf oq_X2_refresh_49 Th135 (k := 55) (d := 2) rfl rfl (ri_ref (k := 55) (k' := 58) (d := 2) (f := 2) Th135 rfl rfl rfl (by decide) (ri_uniq (by decide +kernel))) ?_
          refine ex_il oq_X2_refresh_52 gL136_2 ?_
          refine ex_al oq_X2_refresh_53 gL136_0 ?_
          obtain ⟨x137, ax137, rx137, lx137, ux137⟩ := ri_fld (k := 55) (d := 2) (f := 4) Th135 rfl rfl rfl
          try dsimp only at lx137 ux137
          refine ex_gf oq_X2_refresh_54 Th135 (k := 55) (d := 2) rfl rfl ax137 ?_
          have rx137 := (rx137.symm.trans her : x137.toInt = er)
          refine ex_if0 oq_X2_refresh_57 (t := 64) rfl rfl (fun (c138 : x137.toInt = 0) => ?_) (fun (c138 : ¬ (x137.toInt = 0)) => ?_)
          · refine ex_lc oq_X2_refresh_64 (m := 0) (by decide) (fun x139 hx139 => ?_)
            refine ex_ldc2V oq_X2_refresh_65 (m := 9999) (by decide) (fun x140 hx140 => ?_)
            refine ex_llw oq_X2_refresh_68 gL136_4 ?_
            refine ex_minL oq_X2_refresh_70 (by decide) (Nat.le_of_ble_eq_true rfl) (fun x141 hx141 => ?_)
            refine ex_maxL oq_X2_refresh_73 (by decide) (Nat.le_of_ble_eq_true rfl) (fun x142 hx142 => ?_)
            refine ex_l2iV oq_X2_refresh_76 (by omega) (fun x143 hx143 => ?_)
            refine ex_iw1 oq_X2_refresh_77 Th135 (k := 58) (d := 19) (j := l) rfl rfl (by omega) (by omega) ⟨(cw_i32 _).1, (cw_i32 _).2⟩ (fun h144 Th144 wh144 => ?_)
            have eh144_55_4 : ri_at h144 55 4 = er := (ri_ne wh144 (.inl (by decide))).trans her
            refine ex_retv oq_X2_refresh_78 rfl (hQ h144 Th144 (zG3_w zh135 wh144) ?_ (fun i hi => (ri_ne wh144 (.inr hi)).trans (zE_ri zh135 (by decide) (by decide))))
            rw [ri_self wh144]
            rcases dx134 with ⟨d1, d2⟩ | ⟨d1, d2⟩
            · show _ = gCl (zLV N cs)
              rw [d2]
              exact gCl_v (x := x141.toInt) (by omega) (by omega)
            · exfalso; omega
          · refine ex_ic oq_X2_refresh_60 (m := 0) (by decide) (fun x145 hx145 => ?_)
            refine ex_go oq_X2_refresh_61 (t := 77) rfl rfl ?_
            refine ex_iw1 oq_X2_refresh_77 Th135 (k := 58) (d := 19) (j := l) rfl rfl (by omega) (by omega) ⟨(cw_i32 _).1, (cw_i32 _).2⟩ (fun h146 Th146 wh146 => ?_)
            have eh146_55_4 : ri_at h146 55 4 = er := (ri_ne wh146 (.inl (by decide))).trans her
            refine ex_retv oq_X2_refresh_78 rfl (hQ h146 Th146 (zG3_w zh135 wh146) ?_ (fun i hi => (ri_ne wh146 (.inr hi)).trans (zE_ri zh135 (by decide) (by decide))))
            rw [ri_self wh146]
            rcases dx134 with ⟨d1, d2⟩ | ⟨d1, d2⟩
            · exfalso; omega
            · show _ = gCl (zLV N cs)
              rw [d2]
              show _ = (0 : Int)
              omega
theorem cl_refresh {b RC RA RB RN : Nat} (hb : cw_sh[b]? = some 4) (hRC : cw_sh[RC]? = some 29) (hRA : cw_sh[RA]? = some 30) (hRB : cw_sh[RB]? = some 31) (hRN : cw_sh[RN]? = some 32) (pC : cw_at h b 1 = some (cv_r RC)) (pA : cw_at h b 4 = some (cv_r RA)) (pB : cw_at h b 5 = some (cv_r RB)) (pN : cw_at h b 6 = some (cv_r RN)) (hT : cw_T G h) {k : Int32} {l : Nat} (hk : k.toInt = l) (hl : l < 3) {oo : Option (List Int)} {N V : Nat → Int} (hN : ∀ j, j < 10 → rl_at h 56 j = N j) (hNb : ∀ j, zbb (N j)) (hP : zLP h V) (ho : zLw h RC RA RB RN l oo) (hc : zCq h l oo V) (hQ : ∀ h', cw_T G h' → zG3 h h' → ri_at h' 58 l = gLw oo N → (∀ i, i ≠ l → ri_at h' 58 i = ri_at h 58 i) → Q (none, h')) : cw_X X 33 Q 0 (cv_ent 0 [cv_r 55, cv_r b, cv_i k]) [] h := by
  cases oo with
  | none => exact cl_refreshN hb hRC hRA hRB hRN pC pA pB pN hT hk hl hN hNb hP ho hc hQ
  | some cs => exact cl_refreshT hb hRC hRA hRB hRN pC pA pB pN hT hk hl hN hNb hP ho hc hQ
end GN
