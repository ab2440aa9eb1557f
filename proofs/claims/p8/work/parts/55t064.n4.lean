/-! ===== laws are worked out: the class ===== -/
theorem zB12_y {v : Int} (h : -1000000000000 ≤ v ∧ v ≤ 1000000000000) : zB12 v = some v := by unfold zB12; rw [if_neg (by omega)]
theorem zB12_n {v : Int} (h : 1000000000000 < v ∨ v < -1000000000000) : zB12 v = none := by unfold zB12; rw [if_pos h]
theorem ztm {M a b : Int} (hM : 0 ≤ M) (ha : 1 ≤ a) (hb : 0 ≤ b) : (Int.tdiv M a < b ↔ M < a * b) := by
  rw [Int.tdiv_eq_ediv_of_nonneg hM, Int.ediv_lt_iff_lt_mul (by omega), Int.mul_comm]
/-- |a| |b| is the product but for its sign -/
theorem zab {a b x y : Int} (hx : x = a ∧ 0 ≤ a ∨ x = -a ∧ a ≤ 0) (hy : y = b ∧ 0 ≤ b ∨ y = -b ∧ b ≤ 0) : (a * b = x * y ∨ a * b = -(x * y)) ∧ 0 ≤ x * y := by
  rcases hx with ⟨rfl, h1⟩ | ⟨rfl, h1⟩ <;> rcases hy with ⟨rfl, h2⟩ | ⟨rfl, h2⟩
  · exact ⟨.inl rfl, Int.mul_nonneg h1 h2⟩
  · exact ⟨.inr (by rw [Int.mul_neg, Int.neg_neg]), Int.mul_nonneg h1 (by omega)⟩
  · exact ⟨.inr (by rw [Int.neg_mul, Int.neg_neg]), Int.mul_nonneg (by omega) h2⟩
  · exact ⟨.inl (by rw [Int.neg_mul_neg]), Int.mul_nonneg (by omega) (by omega)⟩
/-- only the laws' error may be another -/
def zE5 (h h' : cv_H) : Prop := (∀ k : Nat, k ≠ 55 → h'[k]? = h[k]?) ∧ ∀ i, i ≠ 4 → cw_at h' 55 i = cw_at h 55 i
theorem zE5_0 {h : cv_H} : zE5 h h := ⟨fun _ _ => rfl, fun _ _ => rfl⟩
theorem zE5_w {h h' : cv_H} {v : cv_V} (w : cw_Wr h h' 55 4 v) : zE5 h h' := ⟨fun k q => w.2.2 k q, fun i q => w.2.1 55 i (.inr q)⟩
section GN
variable {G : Int} {X : cv_X} {Q : cv_O → Prop} {h : cv_H}
theorem oq_X2_bounded_0 : cw_ho 37 0 (.aload_n 0) 1 0 0 0 := rfl
theorem oq_X2_bounded_1 : cw_ho 37 1 (.lload_n 1) 1 0 0 0 := rfl
theorem oq_X2_bounded_2 : cw_ho 37 2 (.ldc2_w 131) 3 0 0 1000000000000 := rfl
theorem oq_X2_bounded_5 : cw_ho 37 5 (.lcmp) 1 0 0 0 := rfl
theorem oq_X2_bounded_6 : cw_ho 37 6 (.ifCond .gt 11) 3 0 0 0 := rfl
theorem oq_X2_bounded_9 : cw_ho 37 9 (.lload_n 1) 1 0 0 0 := rfl
theorem oq_X2_bounded_10 : cw_ho 37 10 (.ldc2_w 133) 3 0 0 (-1000000000000) := rfl
theorem oq_X2_bounded_13 : cw_ho 37 13 (.lcmp) 1 0 0 0 := rfl
theorem oq_X2_bounded_14 : cw_ho 37 14 (.ifCond .ge 7) 3 0 0 0 := rfl
theorem oq_X2_bounded_17 : cw_ho 37 17 (.iconst 1) 1 0 0 0 := rfl
theorem oq_X2_bounded_18 : cw_ho 37 18 (.goto 4) 3 0 0 0 := rfl
theorem oq_X2_bounded_21 : cw_ho 37 21 (.iconst 0) 1 0 0 0 := rfl
theorem oq_X2_bounded_22 : cw_ho 37 22 (.putfield 89) 3 2 4 2 := rfl
theorem oq_X2_bounded_25 : cw_ho 37 25 (.lload_n 1) 1 0 0 0 := rfl
theorem oq_X2_bounded_26 : cw_ho 37 26 (.lreturn) 1 0 0 0 := rfl
theorem cl_bounded (hT : cw_T G h) {v : Int64} (hQ : ∀ {e : Int32} h', cw_T G h' → cw_Wr h h' 55 4 (cv_i e) → (e.toInt = 0 ∧ zB12 v.toInt = some v.toInt ∨ e.toInt = 1 ∧ zB12 v.toInt = none) → Q (some (cv_l v), h')) : cw_X X 37 Q 0 (cv_ent 0 [cv_r 55, cv_l v]) [] h := by
  refine ex_al oq_X2_bounded_0 rfl ?_
  refine ex_ll oq_X2_bounded_1 rfl ?_
  refine ex_ldc2V oq_X2_bounded_2 (m := 1000000000000) (by decide) (fun x11 hx11 => ?_)
  refine ex_lcmpV oq_X2_bounded_5 (fun x12 hx12 => ?_)
  refine ex_if0 oq_X2_bounded_6 (t := 17) rfl rfl (fun (c13 : 0 < x12.toInt) => ?_) (fun (c13 : ¬ (0 < x12.toInt)) => ?_)
  · refine ex_ic oq_X2_bounded_17 (m := 1) (by decide) (fun x14 hx14 => ?_)
    refine ex_go oq_X2_bounded_18 (t := 22) rfl rfl ?_
    refine ex_pfb oq_X2_bounded_22 hT (k := 55) (d := 2) rfl rfl rfl (by omega) (by omega) (fun h15 Th15 wh15 => ?_)
    have eh15_55_4 : ri_at h15 55 4 = x14.toInt := ri_self wh15
    refine ex_ll oq_X2_bounded_25 rfl ?_
    exact ex_retl oq_X2_bounded_26 rfl (hQ h15 Th15 wh15 (.inr ⟨by omega, zB12_n (by omega)⟩))
  · refine ex_ll oq_X2_bounded_9 rfl ?_
    refine ex_ldc2V oq_X2_bounded_10 (m := (-1000000000000)) (by decide) (fun x16 hx16 => ?_)
    refine ex_lcmpV oq_X2_bounded_13 (fun x17 hx17 => ?_)
    refine ex_if0 oq_X2_bounded_14 (t := 21) rfl rfl (fun (c18 : 0 ≤ x17.toInt) => ?_) (fun (c18 : ¬ (0 ≤ x17.toInt)) => ?_)
    · refine ex_ic oq_X2_bounded_21 (m := 0) (by decide) (fun x19 hx19 => ?_)
      refine ex_pfb oq_X2_bounded_22 hT (k := 55) (d := 2) rfl rfl rfl (by omega) (by omega) (fun h20 Th20 wh20 => ?_)
      have eh20_55_4 : ri_at h20 55 4 = x19.toInt := ri_self wh20
      refine ex_ll oq_X2_bounded_25 rfl ?_
      exact ex_retl oq_X2_bounded_26 rfl (hQ h20 Th20 wh20 (.inl ⟨by omega, zB12_y (by omega)⟩))
    · refine ex_ic oq_X2_bounded_17 (m := 1) (by decide) (fun x21 hx21 => ?_)
      refine ex_go oq_X2_bounded_18 (t := 22) rfl rfl ?_
      refine ex_pfb oq_X2_bounded_22 hT (k := 55) (d := 2) rfl rfl rfl (by omega) (by omega) (fun h22 Th22 wh22 => ?_)
      have eh22_55_4 : ri_at h22 55 4 = x21.toInt := ri_self wh22
      refine ex_ll oq_X2_bounded_25 rfl ?_
      exact ex_retl oq_X2_bounded_26 rfl (hQ h22 Th22 wh22 (.inr ⟨by omega, zB12_n (by omega)⟩))
theorem oq_X2_times_0 : cw_ho 38 0 (.aload_n 0) 1 0 0 0 := rfl
theorem oq_X2_times_1 : cw_ho 38 1 (.lload_n 1) 1 0 0 0 := rfl
theorem oq_X2_times_2 : cw_ho 38 2 (.lconst 0) 1 0 0 0 := rfl
theorem oq_X2_times_3 : cw_ho 38 3 (.lcmp) 1 0 0 0 := rfl
theorem oq_X2_times_4 : cw_ho 38 4 (.ifCond .eq 23) 3 0 0 0 := rfl
theorem oq_X2_times_7 : cw_ho 38 7 (.lload_n 3) 1 0 0 0 := rfl
theorem oq_X2_times_8 : cw_ho 38 8 (.invokestatic 135) 3 9006 1 0 := rfl
theorem oq_X2_times_11 : cw_ho 38 11 (.ldc2_w 131) 3 0 0 1000000000000 := rfl
theorem oq_X2_times_14 : cw_ho 38 14 (.lload_n 1) 1 0 0 0 := rfl
theorem oq_X2_times_15 : cw_ho 38 15 (.invokestatic 135) 3 9006 1 0 := rfl
theorem oq_X2_times_18 : cw_ho 38 18 (.ldiv) 1 0 0 0 := rfl
theorem oq_X2_times_19 : cw_ho 38 19 (.lcmp) 1 0 0 0 := rfl
theorem oq_X2_times_20 : cw_ho 38 20 (.ifCond .le 7) 3 0 0 0 := rfl
theorem oq_X2_times_23 : cw_ho 38 23 (.iconst 1) 1 0 0 0 := rfl
theorem oq_X2_times_24 : cw_ho 38 24 (.goto 4) 3 0 0 0 := rfl
theorem oq_X2_times_27 : cw_ho 38 27 (.iconst 0) 1 0 0 0 := rfl
theorem oq_X2_times_28 : cw_ho 38 28 (.putfield 89) 3 2 4 2 := rfl
theorem oq_X2_times_31 : cw_ho 38 31 (.aload_n 0) 1 0 0 0 := rfl
theorem oq_X2_times_32 : cw_ho 38 32 (.getfield 89) 3 2 4 2 := rfl
theorem oq_X2_times_35 : cw_ho 38 35 (.ifCond .eq 7) 3 0 0 0 := rfl
theorem oq_X2_times_38 : cw_ho 38 38 (.lconst 0) 1 0 0 0 := rfl
theorem oq_X2_times_39 : cw_ho 38 39 (.goto 6) 3 0 0 0 := rfl
theorem oq_X2_times_42 : cw_ho 38 42 (.lload_n 1) 1 0 0 0 := rfl
theorem oq_X2_times_43 : cw_ho 38 43 (.lload_n 3) 1 0 0 0 := rfl
theorem oq_X2_times_44 : cw_ho 38 44 (.lmul) 1 0 0 0 := rfl
theorem oq_X2_times_45 : cw_ho 38 45 (.lreturn) 1 0 0 0 := rfl
theorem cl_times (hT : cw_T G h) {l r : Int64} (hl : zbb l.toInt) (hr : zbb r.toInt) (hQ : ∀ (y : Int64) {e : Int32} h', cw_T G h' → cw_Wr h h' 55 4 (cv_i e) → (e.toInt = 0 ∧ zB12 (l.toInt * r.toInt) = some y.toInt ∨ e.toInt = 1 ∧ zB12 (l.toInt * r.toInt) = none ∧ y.toInt = 0) → Q (some (cv_l y), h')) : cw_X X 38 Q 0 (cv_ent 0 [cv_r 55, cv_l l, cv_l r]) [] h := by
  unfold zbb at hl hr
  refine ex_al oq_X2_times_0 rfl ?_
  refine ex_ll oq_X2_times_1 rfl ?_
  refine ex_lc oq_X2_times_2 (m := 0) (by decide) (fun x11 hx11 => ?_)
  refine ex_lcmpV oq_X2_times_3 (fun x12 hx12 => ?_)
  refine ex_if0 oq_X2_times_4 (t := 27) rfl rfl (fun (c13 : x12.toInt = 0) => ?_) (fun (c13 : ¬ (x12.toInt = 0)) => ?_)
  · have hz : l.toInt = 0 := by omega
    have hp : l.toInt * r.toInt = 0 := by rw [hz, Int.zero_mul]
    refine ex_ic oq_X2_times_27 (m := 0) (by decide) (fun x14 hx14 => ?_)
    refine ex_pfb oq_X2_times_28 hT (k := 55) (d := 2) rfl rfl rfl (by omega) (by omega) (fun h15 Th15 wh15 => ?_)
    have eh15_55_4 : ri_at h15 55 4 = x14.toInt := ri_self wh15
    refine ex_al oq_X2_times_31 rfl ?_
    obtain ⟨x16, ax16, rx16, lx16, ux16⟩ := ri_fld (k := 55) (d := 2) (f := 4) Th15 rfl rfl rfl
    try dsimp only at lx16 ux16
    refine ex_gf oq_X2_times_32 Th15 (k := 55) (d := 2) rfl rfl ax16 ?_
    have rx16 := (rx16.symm.trans eh15_55_4 : x16.toInt = x14.toInt)
    refine ex_if0 oq_X2_times_35 (t := 42) rfl rfl (fun (c17 : x16.toInt = 0) => ?_) (fun (c17 : ¬ (x16.toInt = 0)) => ?_)
    · refine ex_ll oq_X2_times_42 rfl ?_
      refine ex_ll oq_X2_times_43 rfl ?_
      refine ex_lmulV oq_X2_times_44 (m := l.toInt * r.toInt) rfl (by omega) (fun x18 hx18 => ?_)
      exact ex_retl oq_X2_times_45 rfl (hQ x18 h15 Th15 wh15 (.inl ⟨by omega, by rw [hx18]; exact zB12_y (by omega)⟩))
    · refine ex_lc oq_X2_times_38 (m := 0) (by decide) (fun x19 hx19 => ?_)
      refine ex_go oq_X2_times_39 (t := 45) rfl rfl ?_
      exact ex_retl oq_X2_times_45 rfl (hQ x19 h15 Th15 wh15 (.inr ⟨by omega, zB12_n (by omega), by omega⟩))
  · refine ex_ll oq_X2_times_7 rfl ?_
    refine ex_absL oq_X2_times_8 (by decide) (Nat.le_of_ble_eq_true rfl) (by omega) (fun x20 hx20 => ?_)
    refine ex_ldc2V oq_X2_times_11 (m := 1000000000000) (by decide) (fun x21 hx21 => ?_)
    refine ex_ll oq_X2_times_14 rfl ?_
    refine ex_absL oq_X2_times_15 (by decide) (Nat.le_of_ble_eq_true rfl) (by omega) (fun x22 hx22 => ?_)
    refine ex_ldivV oq_X2_times_18 (by omega) (by omega) (fun x23 hx23 => ?_)
    replace hx23 : x23.toInt = Int.tdiv 1000000000000 x22.toInt := by rw [hx23, show x21.toInt = 1000000000000 from by omega]
    have zt := ztm (M := 1000000000000) (a := x22.toInt) (b := x20.toInt) (by omega) (by omega) (by omega)
    have zz := zab (a := l.toInt) (b := r.toInt) (x := x22.toInt) (y := x20.toInt) hx22 hx20
    refine ex_lcmpV oq_X2_times_19 (fun x24 hx24 => ?_)
    refine ex_if0 oq_X2_times_20 (t := 27) rfl rfl (fun (c25 : x24.toInt ≤ 0) => ?_) (fun (c25 : ¬ (x24.toInt ≤ 0)) => ?_)
    · refine ex_ic oq_X2_times_27 (m := 0) (by decide) (fun x26 hx26 => ?_)
      refine ex_pfb oq_X2_times_28 hT (k := 55) (d := 2) rfl rfl rfl (by omega) (by omega) (fun h27 Th27 wh27 => ?_)
      have eh27_55_4 : ri_at h27 55 4 = x26.toInt := ri_self wh27
      refine ex_al oq_X2_times_31 rfl ?_
      obtain ⟨x28, ax28, rx28, lx28, ux28⟩ := ri_fld (k := 55) (d := 2) (f := 4) Th27 rfl rfl rfl
      try dsimp only at lx28 ux28
      refine ex_gf oq_X2_times_32 Th27 (k := 55) (d := 2) rfl rfl ax28 ?_
      have rx28 := (rx28.symm.trans eh27_55_4 : x28.toInt = x26.toInt)
      refine ex_if0 oq_X2_times_35 (t := 42) rfl rfl (fun (c29 : x28.toInt = 0) => ?_) (fun (c29 : ¬ (x28.toInt = 0)) => ?_)
      · refine ex_ll oq_X2_times_42 rfl ?_
        refine ex_ll oq_X2_times_43 rfl ?_
        refine ex_lmulV oq_X2_times_44 (m := l.toInt * r.toInt) rfl (by omega) (fun x30 hx30 => ?_)
        exact ex_retl oq_X2_times_45 rfl (hQ x30 h27 Th27 wh27 (.inl ⟨by omega, by rw [hx30]; exact zB12_y (by omega)⟩))
      · refine ex_lc oq_X2_times_38 (m := 0) (by decide) (fun x31 hx31 => ?_)
        refine ex_go oq_X2_times_39 (t := 45) rfl rfl ?_
        exact ex_retl oq_X2_times_45 rfl (hQ x31 h27 Th27 wh27 (.inr ⟨by omega, zB12_n (by omega), by omega⟩))
    · refine ex_ic oq_X2_times_23 (m := 1) (by decide) (fun x32 hx32 => ?_)
      refine ex_go oq_X2_times_24 (t := 28) rfl rfl ?_
      refine ex_pfb oq_X2_times_28 hT (k := 55) (d := 2) rfl rfl rfl (by omega) (by omega) (fun h33 Th33 wh33 => ?_)
      have eh33_55_4 : ri_at h33 55 4 = x32.toInt := ri_self wh33
      refine ex_al oq_X2_times_31 rfl ?_
      obtain ⟨x34, ax34, rx34, lx34, ux34⟩ := ri_fld (k := 55) (d := 2) (f := 4) Th33 rfl rfl rfl
      try dsimp only at lx34 ux34
      refine ex_gf oq_X2_times_32 Th33 (k := 55) (d := 2) rfl rfl ax34 ?_
      have rx34 := (rx34.symm.trans eh33_55_4 : x34.toInt = x32.toInt)
      refine ex_if0 oq_X2_times_35 (t := 42) rfl rfl (fun (c35 : x34.toInt = 0) => ?_) (fun (c35 : ¬ (x34.toInt = 0)) => ?_)
      · refine ex_ll oq_X2_times_42 rfl ?_
        refine ex_ll oq_X2_times_43 rfl ?_
        refine ex_lmulV oq_X2_times_44 (m := l.toInt * r.toInt) rfl (by omega) (fun x36 hx36 => ?_)
        exact ex_retl oq_X2_times_45 rfl (hQ x36 h33 Th33 wh33 (.inl ⟨by omega, by rw [hx36]; exact zB12_y (by omega)⟩))
      · refine ex_lc oq_X2_times_38 (m := 0) (by decide) (fun x37 hx37 => ?_)
        refine ex_go oq_X2_times_39 (t := 45) rfl rfl ?_
        exact ex_retl oq_X2_times_45 rfl (hQ x37 h33 Th33 wh33 (.inr ⟨by omega, zB12_n (by omega), by omega⟩))
theorem oq_X2_by_0 : cw_ho 39 0 (.aload_n 0) 1 0 0 0 := rfl
theorem oq_X2_by_1 : cw_ho 39 1 (.lload_n 3) 1 0 0 0 := rfl
theorem oq_X2_by_2 : cw_ho 39 2 (.lconst 0) 1 0 0 0 := rfl
theorem oq_X2_by_3 : cw_ho 39 3 (.lcmp) 1 0 0 0 := rfl
theorem oq_X2_by_4 : cw_ho 39 4 (.ifCond .ne 7) 3 0 0 0 := rfl
theorem oq_X2_by_7 : cw_ho 39 7 (.iconst 1) 1 0 0 0 := rfl
theorem oq_X2_by_8 : cw_ho 39 8 (.goto 4) 3 0 0 0 := rfl
theorem oq_X2_by_11 : cw_ho 39 11 (.iconst 0) 1 0 0 0 := rfl
theorem oq_X2_by_12 : cw_ho 39 12 (.putfield 89) 3 2 4 2 := rfl
theorem oq_X2_by_15 : cw_ho 39 15 (.lload_n 3) 1 0 0 0 := rfl
theorem oq_X2_by_16 : cw_ho 39 16 (.lconst 0) 1 0 0 0 := rfl
theorem oq_X2_by_17 : cw_ho 39 17 (.lcmp) 1 0 0 0 := rfl
theorem oq_X2_by_18 : cw_ho 39 18 (.ifCond .ne 7) 3 0 0 0 := rfl
theorem oq_X2_by_21 : cw_ho 39 21 (.lconst 0) 1 0 0 0 := rfl
theorem oq_X2_by_22 : cw_ho 39 22 (.goto 6) 3 0 0 0 := rfl
theorem oq_X2_by_25 : cw_ho 39 25 (.lload_n 1) 1 0 0 0 := rfl
theorem oq_X2_by_26 : cw_ho 39 26 (.lload_n 3) 1 0 0 0 := rfl
theorem oq_X2_by_27 : cw_ho 39 27 (.ldiv) 1 0 0 0 := rfl
theorem oq_X2_by_28 : cw_ho 39 28 (.lreturn) 1 0 0 0 := rfl
theorem cl_by (hT : cw_T G h) {l r : Int64} (hl : zbb l.toInt) (hQ : ∀ (y : Int64) {e : Int32} h', cw_T G h' → cw_Wr h h' 55 4 (cv_i e) → (e.toInt = 0 ∧ ¬ r.toInt = 0 ∧ y.toInt = l.toInt.tdiv r.toInt ∨ e.toInt = 1 ∧ r.toInt = 0 ∧ y.toInt = 0) → Q (some (cv_l y), h')) : cw_X X 39 Q 0 (cv_ent 0 [cv_r 55, cv_l l, cv_l r]) [] h := by
  unfold zbb at hl
  refine ex_al oq_X2_by_0 rfl ?_
  refine ex_ll oq_X2_by_1 rfl ?_
  refine ex_lc oq_X2_by_2 (m := 0) (by decide) (fun x11 hx11 => ?_)
  refine ex_lcmpV oq_X2_by_3 (fun x12 hx12 => ?_)
  refine ex_if0 oq_X2_by_4 (t := 11) rfl rfl (fun (c13 : ¬ x12.toInt = 0) => ?_) (fun (c13 : ¬ (¬ x12.toInt = 0)) => ?_)
  · refine ex_ic oq_X2_by_11 (m := 0) (by decide) (fun x14 hx14 => ?_)
    refine ex_pfb oq_X2_by_12 hT (k := 55) (d := 2) rfl rfl rfl (by omega) (by omega) (fun h15 Th15 wh15 => ?_)
    have eh15_55_4 : ri_at h15 55 4 = x14.toInt := ri_self wh15
    refine ex_ll oq_X2_by_15 rfl ?_
    refine ex_lc oq_X2_by_16 (m := 0) (by decide) (fun x16 hx16 => ?_)
    refine ex_lcmpV oq_X2_by_17 (fun x17 hx17 => ?_)
    refine ex_if0 oq_X2_by_18 (t := 25) rfl rfl (fun (c18 : ¬ x17.toInt = 0) => ?_) (fun (c18 : ¬ (¬ x17.toInt = 0)) => ?_)
    · refine ex_ll oq_X2_by_25 rfl ?_
      refine ex_ll oq_X2_by_26 rfl ?_
      refine ex_ldivV oq_X2_by_27 (by omega) (by omega) (fun x19 hx19 => ?_)
      exact ex_retl oq_X2_by_28 rfl (hQ x19 h15 Th15 wh15 (.inl ⟨by omega, by omega, hx19⟩))
    · refine ex_lc oq_X2_by_21 (m := 0) (by decide) (fun x20 hx20 => ?_)
      refine ex_go oq_X2_by_22 (t := 28) rfl rfl ?_
      exact ex_retl oq_X2_by_28 rfl (hQ x20 h15 Th15 wh15 (.inr ⟨by omega, by omega, by omega⟩))
  · refine ex_ic oq_X2_by_7 (m := 1) (by decide) (fun x21 hx21 => ?_)
    refine ex_go oq_X2_by_8 (t := 12) rfl rfl ?_
    refine ex_pfb oq_X2_by_12 hT (k := 55) (d := 2) rfl rfl rfl (by omega) (by omega) (fun h22 Th22 wh22 => ?_)
    have eh22_55_4 : ri_at h22 55 4 = x21.toInt := ri_self wh22
    refine ex_ll oq_X2_by_15 rfl ?_
    refine ex_lc oq_X2_by_16 (m := 0) (by decide) (fun x23 hx23 => ?_)
    refine ex_lcmpV oq_X2_by_17 (fun x24 hx24 => ?_)
    refine ex_if0 oq_X2_by_18 (t := 25) rfl rfl (fun (c25 : ¬ x24.toInt = 0) => ?_) (fun (c25 : ¬ (¬ x24.toInt = 0)) => ?_)
    · refine ex_ll oq_X2_by_25 rfl ?_
      refine ex_ll oq_X2_by_26 rfl ?_
      refine ex_ldivV oq_X2_by_27 (by omega) (by omega) (fun x26 hx26 => ?_)
      exact ex_retl oq_X2_by_28 rfl (hQ x26 h22 Th22 wh22 (.inl ⟨by omega, by omega, hx26⟩))
    · refine ex_lc oq_X2_by_21 (m := 0) (by decide) (fun x27 hx27 => ?_)
      refine ex_go oq_X2_by_22 (t := 28) rfl rfl ?_
      exact ex_retl oq_X2_by_28 rfl (hQ x27 h22 Th22 wh22 (.inr ⟨by omega, by omega, by omega⟩))
theorem oq_X2_valueOf_0 : cw_ho 35 0 (.iload_n 1) 1 0 0 0 := rfl
theorem oq_X2_valueOf_1 : cw_ho 35 1 (.sipush 10000) 3 0 0 0 := rfl
theorem oq_X2_valueOf_4 : cw_ho 35 4 (.isub) 1 0 0 0 := rfl
theorem oq_X2_valueOf_5 : cw_ho 35 5 (.istore_n 2) 1 0 0 0 := rfl
theorem oq_X2_valueOf_6 : cw_ho 35 6 (.iload_n 2) 1 0 0 0 := rfl
theorem oq_X2_valueOf_7 : cw_ho 35 7 (.ifCond .lt 18) 3 0 0 0 := rfl
theorem oq_X2_valueOf_10 : cw_ho 35 10 (.iload_n 2) 1 0 0 0 := rfl
theorem oq_X2_valueOf_11 : cw_ho 35 11 (.bipush 10) 2 0 0 0 := rfl
theorem oq_X2_valueOf_13 : cw_ho 35 13 (.if_icmp .ge 12) 3 0 0 0 := rfl
theorem oq_X2_valueOf_16 : cw_ho 35 16 (.aload_n 0) 1 0 0 0 := rfl
theorem oq_X2_valueOf_17 : cw_ho 35 17 (.getfield 9) 3 2 0 4 := rfl
theorem oq_X2_valueOf_20 : cw_ho 35 20 (.iload_n 2) 1 0 0 0 := rfl
theorem oq_X2_valueOf_21 : cw_ho 35 21 (.laload) 1 0 0 0 := rfl
theorem oq_X2_valueOf_22 : cw_ho 35 22 (.goto 5) 3 0 0 0 := rfl
theorem oq_X2_valueOf_25 : cw_ho 35 25 (.iload_n 1) 1 0 0 0 := rfl
theorem oq_X2_valueOf_26 : cw_ho 35 26 (.i2l) 1 0 0 0 := rfl
theorem oq_X2_valueOf_27 : cw_ho 35 27 (.lreturn) 1 0 0 0 := rfl
theorem cl_valueOf (hT : cw_T G h) {k : Int32} {N : Nat → Int} (hk : 0 ≤ k.toInt ∧ k.toInt < 10010) (hN : ∀ j, j < 10 → rl_at h 56 j = N j) (hQ : ∀ y : Int64, (k.toInt < 10000 ∧ y.toInt = k.toInt ∨ 10000 ≤ k.toInt ∧ y.toInt = N (k.toInt - 10000).toNat) → Q (some (cv_l y), h)) : cw_X X 35 Q 0 (cv_ent 0 [cv_r 55, cv_i k]) [] h := by
  refine ex_il oq_X2_valueOf_0 rfl ?_
  refine ex_si oq_X2_valueOf_1 (m := 10000) (by decide) (fun x11 hx11 => ?_)
  refine ex_sub oq_X2_valueOf_4 (by omega) (fun x12 hx12 => ?_)
  refine ex_isA oq_X2_valueOf_5 (fun L13 gL13_2 kL13 => ?_)
  have gL13_0 : cv_get L13 0 = some (cv_r 55) := kL13 0 _ (by decide) (fun q => absurd q (by decide)) rfl
  have gL13_1 : cv_get L13 1 = some (cv_i k) := kL13 1 _ (by decide) (fun _ => rfl) rfl
  refine ex_il oq_X2_valueOf_6 gL13_2 ?_
  refine ex_if0 oq_X2_valueOf_7 (t := 25) rfl rfl (fun (c14 : x12.toInt < 0) => ?_) (fun (c14 : ¬ (x12.toInt < 0)) => ?_)
  · refine ex_il oq_X2_valueOf_25 gL13_1 ?_
    refine ex_i2l oq_X2_valueOf_26 (fun x15 hx15 => ?_)
    exact ex_retl oq_X2_valueOf_27 rfl (hQ x15 (.inl ⟨by omega, by omega⟩))
  · refine ex_il oq_X2_valueOf_10 gL13_2 ?_
    refine ex_bi oq_X2_valueOf_11 (m := 10) (by decide) (fun x16 hx16 => ?_)
    refine ex_if oq_X2_valueOf_13 (t := 25) rfl rfl (fun (c17 : x16.toInt ≤ x12.toInt) => ?_) (fun (c17 : ¬ (x16.toInt ≤ x12.toInt)) => ?_)
    · exfalso; omega
    · refine ex_al oq_X2_valueOf_16 gL13_0 ?_
      refine ex_gf oq_X2_valueOf_17 hT (k := 55) (d := 2) rfl rfl (ri_ref (k := 55) (k' := 56) (d := 2) (f := 0) hT rfl rfl rfl (by decide) (ri_uniq (by decide +kernel))) ?_
      refine ex_il oq_X2_valueOf_20 gL13_2 ?_
      refine ex_laV oq_X2_valueOf_21 hT (k := 56) (d := 17) (j := (k.toInt - 10000).toNat) rfl rfl (by omega) (by omega) (fun x18 hx18 => ?_)
      replace hx18 : x18.toInt = N (k.toInt - 10000).toNat := hx18.symm.trans (hN _ (by omega))
      refine ex_go oq_X2_valueOf_22 (t := 27) rfl rfl ?_
      exact ex_retl oq_X2_valueOf_27 rfl (hQ x18 (.inr ⟨by omega, by omega⟩))
end GN
