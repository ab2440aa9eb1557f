/-! ===== a knot's value, a law's value: the reference ===== -/
theorem zvo_J {N V : Nat → Int} {q1 q2 q3 : Int} (h : 3 ≤ q1) : zvo N V q1 q2 q3 = zjn q1 (V q2.toNat) (V q3.toNat) := by
  unfold zvo
  rw [if_neg (by omega), if_neg (by omega), if_neg (by omega)]
theorem zR_3 {a b : Int} : zjn 3 a b = some (if a ≠ 0 ∧ b ≠ 0 then 1 else 0) := rfl
theorem zR_4 {a b : Int} : zjn 4 a b = some (if a ≠ 0 ∨ b ≠ 0 then 1 else 0) := rfl
theorem zR_5 {a b : Int} : zjn 5 a b = some (if a < b then 1 else 0) := rfl
theorem zR_6 {a b : Int} : zjn 6 a b = some (if a ≤ b then 1 else 0) := rfl
theorem zR_7 {a b : Int} : zjn 7 a b = some (if a = b then 1 else 0) := rfl
theorem zR_8 {a b : Int} : zjn 8 a b = some (if a ≠ b then 1 else 0) := rfl
theorem zR_9 {a b : Int} : zjn 9 a b = some (if b ≤ a then 1 else 0) := rfl
theorem zR_10 {a b : Int} : zjn 10 a b = some (if b < a then 1 else 0) := rfl
theorem zR_11 {a b : Int} : zjn 11 a b = zB12 (a + b) := rfl
theorem zR_12 {a b : Int} : zjn 12 a b = zB12 (a - b) := rfl
theorem zR_13 {a b : Int} : zjn 13 a b = zB12 (a * b) := rfl
theorem zR_14 {a b : Int} : zjn 14 a b = if b = 0 then none else some (a.tdiv b) := rfl
/-- only the reference's error may be another -/
def zE8 (h h' : cv_H) : Prop := (∀ k : Nat, k ≠ 111 → h'[k]? = h[k]?) ∧ ∀ i, i ≠ 48 → cw_at h' 111 i = cw_at h 111 i
theorem zE8_0 {h : cv_H} : zE8 h h := ⟨fun _ _ => rfl, fun _ _ => rfl⟩
theorem zE8_w {h h' : cv_H} {v : cv_V} (w : cw_Wr h h' 111 48 v) : zE8 h h' := ⟨fun k q => w.2.2 k q, fun i q => w.2.1 111 i (.inr q)⟩
/-- a knot's value and the error behind it -/
def zvR (o : Option Int) (e : Int) (y : Int) (h : cv_H) : Prop := (e = 0 ∧ ri_at h 111 48 = 0 ∧ o = some y) ∨ (ri_at h 111 48 = 1 ∧ (e = 1 ∨ o = none))
theorem zvR_i {o : Option Int} {e y : Int} {h : cv_H} (hz : o = some y) (h01 : e = 0 ∨ e = 1) (he : ri_at h 111 48 = e) : zvR o e y h := by
  rcases h01 with q | q
  · exact .inl ⟨q, he.trans q, hz⟩
  · exact .inr ⟨he.trans q, .inl q⟩
theorem zbb_0 {y : Int} (h : y = 0) : zbb y := by unfold zbb; omega
section GN
variable {G : Int} {X : cv_X} {Q : cv_O → Prop} {h : cv_H}
theorem oq_X12_bounded_0 : cw_ho 208 0 (.aload_n 0) 1 0 0 0 := rfl
theorem oq_X12_bounded_1 : cw_ho 208 1 (.aload_n 0) 1 0 0 0 := rfl
theorem oq_X12_bounded_2 : cw_ho 208 2 (.getfield 361) 3 12 48 2 := rfl
theorem oq_X12_bounded_5 : cw_ho 208 5 (.ifCond .ne 19) 3 0 0 0 := rfl
theorem oq_X12_bounded_8 : cw_ho 208 8 (.lload_n 1) 1 0 0 0 := rfl
theorem oq_X12_bounded_9 : cw_ho 208 9 (.ldc2_w 364) 3 0 0 1000000000000 := rfl
theorem oq_X12_bounded_12 : cw_ho 208 12 (.lcmp) 1 0 0 0 := rfl
theorem oq_X12_bounded_13 : cw_ho 208 13 (.ifCond .gt 11) 3 0 0 0 := rfl
theorem oq_X12_bounded_16 : cw_ho 208 16 (.lload_n 1) 1 0 0 0 := rfl
theorem oq_X12_bounded_17 : cw_ho 208 17 (.ldc2_w 366) 3 0 0 (-1000000000000) := rfl
theorem oq_X12_bounded_20 : cw_ho 208 20 (.lcmp) 1 0 0 0 := rfl
theorem oq_X12_bounded_21 : cw_ho 208 21 (.ifCond .ge 7) 3 0 0 0 := rfl
theorem oq_X12_bounded_24 : cw_ho 208 24 (.iconst 1) 1 0 0 0 := rfl
theorem oq_X12_bounded_25 : cw_ho 208 25 (.goto 4) 3 0 0 0 := rfl
theorem oq_X12_bounded_28 : cw_ho 208 28 (.iconst 0) 1 0 0 0 := rfl
theorem oq_X12_bounded_29 : cw_ho 208 29 (.putfield 361) 3 12 48 2 := rfl
theorem oq_X12_bounded_32 : cw_ho 208 32 (.aload_n 0) 1 0 0 0 := rfl
theorem oq_X12_bounded_33 : cw_ho 208 33 (.getfield 361) 3 12 48 2 := rfl
theorem oq_X12_bounded_36 : cw_ho 208 36 (.ifCond .eq 7) 3 0 0 0 := rfl
theorem oq_X12_bounded_39 : cw_ho 208 39 (.lconst 0) 1 0 0 0 := rfl
theorem oq_X12_bounded_40 : cw_ho 208 40 (.goto 4) 3 0 0 0 := rfl
theorem oq_X12_bounded_43 : cw_ho 208 43 (.lload_n 1) 1 0 0 0 := rfl
theorem oq_X12_bounded_44 : cw_ho 208 44 (.lreturn) 1 0 0 0 := rfl
theorem rl_bounded (hT : cw_T G h) {v : Int64} {e : Int} (he : ri_at h 111 48 = e) (h01 : e = 0 ∨ e = 1) (hQ : ∀ (y : Int64) {x : Int32} h', cw_T G h' → cw_Wr h h' 111 48 (cv_i x) → ((x.toInt = 0 ∧ e = 0 ∧ zB12 v.toInt = some y.toInt) ∨ (x.toInt = 1 ∧ (e = 1 ∨ zB12 v.toInt = none) ∧ y.toInt = 0)) → Q (some (cv_l y), h')) : cw_X X 208 Q 0 (cv_ent 0 [cv_r 111, cv_l v]) [] h := by
  refine ex_al oq_X12_bounded_0 rfl ?_
  refine ex_al oq_X12_bounded_1 rfl ?_
  obtain ⟨x11, ax11, rx11, lx11, ux11⟩ := fi_isError hT
  refine ex_gf oq_X12_bounded_2 hT (k := 111) (d := 12) rfl rfl ax11 ?_
  have rx11 := (rx11.symm.trans he : x11.toInt = e)
  refine ex_if0 oq_X12_bounded_5 (t := 24) rfl rfl (fun (c12 : ¬ x11.toInt = 0) => ?_) (fun (c12 : ¬ (¬ x11.toInt = 0)) => ?_)
  · refine ex_ic oq_X12_bounded_24 (m := 1) (by decide) (fun x13 hx13 => ?_)
    refine ex_go oq_X12_bounded_25 (t := 29) rfl rfl ?_
    refine ex_pfb oq_X12_bounded_29 hT (k := 111) (d := 12) rfl rfl rfl (by omega) (by omega) (fun h14 Th14 wh14 => ?_)
    have eh14_111_48 : ri_at h14 111 48 = x13.toInt := ri_self wh14
    refine ex_al oq_X12_bounded_32 rfl ?_
    obtain ⟨x15, ax15, rx15, lx15, ux15⟩ := fi_isError Th14
    refine ex_gf oq_X12_bounded_33 Th14 (k := 111) (d := 12) rfl rfl ax15 ?_
    have rx15 := (rx15.symm.trans eh14_111_48 : x15.toInt = x13.toInt)
    refine ex_if0 oq_X12_bounded_36 (t := 43) rfl rfl (fun (c16 : x15.toInt = 0) => ?_) (fun (c16 : ¬ (x15.toInt = 0)) => ?_)
    · refine ex_ll oq_X12_bounded_43 rfl ?_
      exact ex_retl oq_X12_bounded_44 rfl (hQ v h14 Th14 wh14 (.inl ⟨by omega, by omega, zB12_y (by omega)⟩))
    · refine ex_lc oq_X12_bounded_39 (m := 0) (by decide) (fun x17 hx17 => ?_)
      refine ex_go oq_X12_bounded_40 (t := 44) rfl rfl ?_
      exact ex_retl oq_X12_bounded_44 rfl (hQ x17 h14 Th14 wh14 (.inr ⟨by omega, .inl (by omega), by omega⟩))
  · refine ex_ll oq_X12_bounded_8 rfl ?_
    refine ex_ldc2V oq_X12_bounded_9 (m := 1000000000000) (by decide) (fun x18 hx18 => ?_)
    refine ex_lcmpV oq_X12_bounded_12 (fun x19 hx19 => ?_)
    refine ex_if0 oq_X12_bounded_13 (t := 24) rfl rfl (fun (c20 : 0 < x19.toInt) => ?_) (fun (c20 : ¬ (0 < x19.toInt)) => ?_)
    · refine ex_ic oq_X12_bounded_24 (m := 1) (by decide) (fun x21 hx21 => ?_)
      refine ex_go oq_X12_bounded_25 (t := 29) rfl rfl ?_
      refine ex_pfb oq_X12_bounded_29 hT (k := 111) (d := 12) rfl rfl rfl (by omega) (by omega) (fun h22 Th22 wh22 => ?_)
      have eh22_111_48 : ri_at h22 111 48 = x21.toInt := ri_self wh22
      refine ex_al oq_X12_bounded_32 rfl ?_
      obtain ⟨x23, ax23, rx23, lx23, ux23⟩ := fi_isError Th22
      refine ex_gf oq_X12_bounded_33 Th22 (k := 111) (d := 12) rfl rfl ax23 ?_
      have rx23 := (rx23.symm.trans eh22_111_48 : x23.toInt = x21.toInt)
      refine ex_if0 oq_X12_bounded_36 (t := 43) rfl rfl (fun (c24 : x23.toInt = 0) => ?_) (fun (c24 : ¬ (x23.toInt = 0)) => ?_)
      · refine ex_ll oq_X12_bounded_43 rfl ?_
        exact ex_retl oq_X12_bounded_44 rfl (hQ v h22 Th22 wh22 (.inl ⟨by omega, by omega, zB12_y (by omega)⟩))
      · refine ex_lc oq_X12_bounded_39 (m := 0) (by decide) (fun x25 hx25 => ?_)
        refine ex_go oq_X12_bounded_40 (t := 44) rfl rfl ?_
        exact ex_retl oq_X12_bounded_44 rfl (hQ x25 h22 Th22 wh22 (.inr ⟨by omega, .inr (zB12_n (by omega)), by omega⟩))
    · refine ex_ll oq_X12_bounded_16 rfl ?_
      refine ex_ldc2V oq_X12_bounded_17 (m := (-1000000000000)) (by decide) (fun x26 hx26 => ?_)
      refine ex_lcmpV oq_X12_bounded_20 (fun x27 hx27 => ?_)
      refine ex_if0 oq_X12_bounded_21 (t := 28) rfl rfl (fun (c28 : 0 ≤ x27.toInt) => ?_) (fun (c28 : ¬ (0 ≤ x27.toInt)) => ?_)
      · refine ex_ic oq_X12_bounded_28 (m := 0) (by decide) (fun x29 hx29 => ?_)
        refine ex_pfb oq_X12_bounded_29 hT (k := 111) (d := 12) rfl rfl rfl (by omega) (by omega) (fun h30 Th30 wh30 => ?_)
        have eh30_111_48 : ri_at h30 111 48 = x29.toInt := ri_self wh30
        refine ex_al oq_X12_bounded_32 rfl ?_
        obtain ⟨x31, ax31, rx31, lx31, ux31⟩ := fi_isError Th30
        refine ex_gf oq_X12_bounded_33 Th30 (k := 111) (d := 12) rfl rfl ax31 ?_
        have rx31 := (rx31.symm.trans eh30_111_48 : x31.toInt = x29.toInt)
        refine ex_if0 oq_X12_bounded_36 (t := 43) rfl rfl (fun (c32 : x31.toInt = 0) => ?_) (fun (c32 : ¬ (x31.toInt = 0)) => ?_)
        · refine ex_ll oq_X12_bounded_43 rfl ?_
          exact ex_retl oq_X12_bounded_44 rfl (hQ v h30 Th30 wh30 (.inl ⟨by omega, by omega, zB12_y (by omega)⟩))
        · refine ex_lc oq_X12_bounded_39 (m := 0) (by decide) (fun x33 hx33 => ?_)
          refine ex_go oq_X12_bounded_40 (t := 44) rfl rfl ?_
          exact ex_retl oq_X12_bounded_44 rfl (hQ x33 h30 Th30 wh30 (.inr ⟨by omega, .inl (by omega), by omega⟩))
      · refine ex_ic oq_X12_bounded_24 (m := 1) (by decide) (fun x34 hx34 => ?_)
        refine ex_go oq_X12_bounded_25 (t := 29) rfl rfl ?_
        refine ex_pfb oq_X12_bounded_29 hT (k := 111) (d := 12) rfl rfl rfl (by omega) (by omega) (fun h35 Th35 wh35 => ?_)
        have eh35_111_48 : ri_at h35 111 48 = x34.toInt := ri_self wh35
        refine ex_al oq_X12_bounded_32 rfl ?_
        obtain ⟨x36, ax36, rx36, lx36, ux36⟩ := fi_isError Th35
        refine ex_gf oq_X12_bounded_33 Th35 (k := 111) (d := 12) rfl rfl ax36 ?_
        have rx36 := (rx36.symm.trans eh35_111_48 : x36.toInt = x34.toInt)
        refine ex_if0 oq_X12_bounded_36 (t := 43) rfl rfl (fun (c37 : x36.toInt = 0) => ?_) (fun (c37 : ¬ (x36.toInt = 0)) => ?_)
        · refine ex_ll oq_X12_bounded_43 rfl ?_
          exact ex_retl oq_X12_bounded_44 rfl (hQ v h35 Th35 wh35 (.inl ⟨by omega, by omega, zB12_y (by omega)⟩))
        · refine ex_lc oq_X12_bounded_39 (m := 0) (by decide) (fun x38 hx38 => ?_)
          refine ex_go oq_X12_bounded_40 (t := 44) rfl rfl ?_
          exact ex_retl oq_X12_bounded_44 rfl (hQ x38 h35 Th35 wh35 (.inr ⟨by omega, .inr (zB12_n (by omega)), by omega⟩))
theorem oq_X12_times_0 : cw_ho 210 0 (.lload_n 1) 1 0 0 0 := rfl
theorem oq_X12_times_1 : cw_ho 210 1 (.lconst 0) 1 0 0 0 := rfl
theorem oq_X12_times_2 : cw_ho 210 2 (.lcmp) 1 0 0 0 := rfl
theorem oq_X12_times_3 : cw_ho 210 3 (.ifCond .eq 45) 3 0 0 0 := rfl
theorem oq_X12_times_6 : cw_ho 210 6 (.lload_n 3) 1 0 0 0 := rfl
theorem oq_X12_times_7 : cw_ho 210 7 (.lconst 0) 1 0 0 0 := rfl
theorem oq_X12_times_8 : cw_ho 210 8 (.lcmp) 1 0 0 0 := rfl
theorem oq_X12_times_9 : cw_ho 210 9 (.ifCond .eq 39) 3 0 0 0 := rfl
theorem oq_X12_times_12 : cw_ho 210 12 (.lload_n 3) 1 0 0 0 := rfl
theorem oq_X12_times_13 : cw_ho 210 13 (.lconst 0) 1 0 0 0 := rfl
theorem oq_X12_times_14 : cw_ho 210 14 (.lcmp) 1 0 0 0 := rfl
theorem oq_X12_times_15 : cw_ho 210 15 (.ifCond .ge 8) 3 0 0 0 := rfl
theorem oq_X12_times_18 : cw_ho 210 18 (.lload_n 3) 1 0 0 0 := rfl
theorem oq_X12_times_19 : cw_ho 210 19 (.lneg) 1 0 0 0 := rfl
theorem oq_X12_times_20 : cw_ho 210 20 (.goto 4) 3 0 0 0 := rfl
theorem oq_X12_times_23 : cw_ho 210 23 (.lload_n 3) 1 0 0 0 := rfl
theorem oq_X12_times_24 : cw_ho 210 24 (.ldc2_w 364) 3 0 0 1000000000000 := rfl
theorem oq_X12_times_27 : cw_ho 210 27 (.lload_n 1) 1 0 0 0 := rfl
theorem oq_X12_times_28 : cw_ho 210 28 (.lconst 0) 1 0 0 0 := rfl
theorem oq_X12_times_29 : cw_ho 210 29 (.lcmp) 1 0 0 0 := rfl
theorem oq_X12_times_30 : cw_ho 210 30 (.ifCond .ge 8) 3 0 0 0 := rfl
theorem oq_X12_times_33 : cw_ho 210 33 (.lload_n 1) 1 0 0 0 := rfl
theorem oq_X12_times_34 : cw_ho 210 34 (.lneg) 1 0 0 0 := rfl
theorem oq_X12_times_35 : cw_ho 210 35 (.goto 4) 3 0 0 0 := rfl
theorem oq_X12_times_38 : cw_ho 210 38 (.lload_n 1) 1 0 0 0 := rfl
theorem oq_X12_times_39 : cw_ho 210 39 (.ldiv) 1 0 0 0 := rfl
theorem oq_X12_times_40 : cw_ho 210 40 (.lcmp) 1 0 0 0 := rfl
theorem oq_X12_times_41 : cw_ho 210 41 (.ifCond .le 7) 3 0 0 0 := rfl
theorem oq_X12_times_44 : cw_ho 210 44 (.iconst 1) 1 0 0 0 := rfl
theorem oq_X12_times_45 : cw_ho 210 45 (.goto 4) 3 0 0 0 := rfl
theorem oq_X12_times_48 : cw_ho 210 48 (.iconst 0) 1 0 0 0 := rfl
theorem oq_X12_times_49 : cw_ho 210 49 (.istore 5) 2 0 0 0 := rfl
theorem oq_X12_times_51 : cw_ho 210 51 (.aload_n 0) 1 0 0 0 := rfl
theorem oq_X12_times_52 : cw_ho 210 52 (.aload_n 0) 1 0 0 0 := rfl
theorem oq_X12_times_53 : cw_ho 210 53 (.getfield 361) 3 12 48 2 := rfl
theorem oq_X12_times_56 : cw_ho 210 56 (.ifCond .ne 8) 3 0 0 0 := rfl
theorem oq_X12_times_59 : cw_ho 210 59 (.iload 5) 2 0 0 0 := rfl
theorem oq_X12_times_61 : cw_ho 210 61 (.ifCond .eq 7) 3 0 0 0 := rfl
theorem oq_X12_times_64 : cw_ho 210 64 (.iconst 1) 1 0 0 0 := rfl
theorem oq_X12_times_65 : cw_ho 210 65 (.goto 4) 3 0 0 0 := rfl
theorem oq_X12_times_68 : cw_ho 210 68 (.iconst 0) 1 0 0 0 := rfl
theorem oq_X12_times_69 : cw_ho 210 69 (.putfield 361) 3 12 48 2 := rfl
theorem oq_X12_times_72 : cw_ho 210 72 (.aload_n 0) 1 0 0 0 := rfl
theorem oq_X12_times_73 : cw_ho 210 73 (.getfield 361) 3 12 48 2 := rfl
theorem oq_X12_times_76 : cw_ho 210 76 (.ifCond .eq 7) 3 0 0 0 := rfl
theorem oq_X12_times_79 : cw_ho 210 79 (.lconst 0) 1 0 0 0 := rfl
theorem oq_X12_times_80 : cw_ho 210 80 (.goto 6) 3 0 0 0 := rfl
theorem oq_X12_times_83 : cw_ho 210 83 (.lload_n 1) 1 0 0 0 := rfl
theorem oq_X12_times_84 : cw_ho 210 84 (.lload_n 3) 1 0 0 0 := rfl
theorem oq_X12_times_85 : cw_ho 210 85 (.lmul) 1 0 0 0 := rfl
theorem oq_X12_times_86 : cw_ho 210 86 (.lreturn) 1 0 0 0 := rfl
theorem rl_times (hT : cw_T G h) {l r : Int64} (hl : zbb l.toInt) (hr : zbb r.toInt) {e : Int} (he : ri_at h 111 48 = e) (h01 : e = 0 ∨ e = 1) (hQ : ∀ (y : Int64) {x : Int32} h', cw_T G h' → cw_Wr h h' 111 48 (cv_i x) → ((x.toInt = 0 ∧ e = 0 ∧ zB12 (l.toInt * r.toInt) = some y.toInt) ∨ (x.toInt = 1 ∧ (e = 1 ∨ zB12 (l.toInt * r.toInt) = none) ∧ y.toInt = 0)) → Q (some (cv_l y), h')) : cw_X X 210 Q 0 (cv_ent 0 [cv_r 111, cv_l l, cv_l r]) [] h := by
  unfold zbb at hl hr
  refine ex_ll oq_X12_times_0 rfl ?_
  refine ex_lc oq_X12_times_1 (m := 0) (by decide) (fun x11 hx11 => ?_)
  refine ex_lcmpV oq_X12_times_2 (fun x12 hx12 => ?_)
  refine ex_if0 oq_X12_times_3 (t := 48) rfl rfl (fun (c13 : x12.toInt = 0) => ?_) (fun (c13 : ¬ (x12.toInt = 0)) => ?_)
  · have hp : l.toInt * r.toInt = 0 := by rw [show l.toInt = 0 from by omega, Int.zero_mul]
    refine ex_ic oq_X12_times_48 (m := 0) (by decide) (fun x14 hx14 => ?_)
    refine ex_iswA oq_X12_times_49 (fun L15 gL15_5 kL15 => ?_)
    have gL15_0 : cv_get L15 0 = some (cv_r 111) := kL15 0 _ (by decide) (fun q => absurd q (by decide)) rfl
    have gL15_1 : cv_get L15 1 = some (cv_l l) := kL15 1 _ (by decide) (fun q => absurd q (by decide)) rfl
    have gL15_3 : cv_get L15 3 = some (cv_l r) := kL15 3 _ (by decide) (fun q => absurd q (by decide)) rfl
    refine ex_al oq_X12_times_51 gL15_0 ?_
    refine ex_al oq_X12_times_52 gL15_0 ?_
    obtain ⟨x16, ax16, rx16, lx16, ux16⟩ := fi_isError hT
    refine ex_gf oq_X12_times_53 hT (k := 111) (d := 12) rfl rfl ax16 ?_
    have rx16 := (rx16.symm.trans he : x16.toInt = e)
    refine ex_if0 oq_X12_times_56 (t := 64) rfl rfl (fun (c17 : ¬ x16.toInt = 0) => ?_) (fun (c17 : ¬ (¬ x16.toInt = 0)) => ?_)
    · refine ex_ic oq_X12_times_64 (m := 1) (by decide) (fun x18 hx18 => ?_)
      refine ex_go oq_X12_times_65 (t := 69) rfl rfl ?_
      refine ex_pfb oq_X12_times_69 hT (k := 111) (d := 12) rfl rfl rfl (by omega) (by omega) (fun h19 Th19 wh19 => ?_)
      have eh19_111_48 : ri_at h19 111 48 = x18.toInt := ri_self wh19
      refine ex_al oq_X12_times_72 gL15_0 ?_
      obtain ⟨x20, ax20, rx20, lx20, ux20⟩ := fi_isError Th19
      refine ex_gf oq_X12_times_73 Th19 (k := 111) (d := 12) rfl rfl ax20 ?_
      have rx20 := (rx20.symm.trans eh19_111_48 : x20.toInt = x18.toInt)
      refine ex_if0 oq_X12_times_76 (t := 83) rfl rfl (fun (c21 : x20.toInt = 0) => ?_) (fun (c21 : ¬ (x20.toInt = 0)) => ?_)
      · exfalso; omega
      · refine ex_lc oq_X12_times_79 (m := 0) (by decide) (fun x22 hx22 => ?_)
        refine ex_go oq_X12_times_80 (t := 86) rfl rfl ?_
        exact ex_retl oq_X12_times_86 rfl (hQ x22 h19 Th19 wh19 (.inr ⟨by omega, .inl (by omega), by omega⟩))
    · refine ex_ilw oq_X12_times_59 gL15_5 ?_
      refine ex_if0 oq_X12_times_61 (t := 68) rfl rfl (fun (c23 : x14.toInt = 0) => ?_) (fun (c23 : ¬ (x14.toInt = 0)) => ?_)
      · refine ex_ic oq_X12_times_68 (m := 0) (by decide) (fun x24 hx24 => ?_)
        refine ex_pfb oq_X12_times_69 hT (k := 111) (d := 12) rfl rfl rfl (by omega) (by omega) (fun h25 Th25 wh25 => ?_)
        have eh25_111_48 : ri_at h25 111 48 = x24.toInt := ri_self wh25
        refine ex_al oq_X12_times_72 gL15_0 ?_
        obtain ⟨x26, ax26, rx26, lx26, ux26⟩ := fi_isError Th25
        refine ex_gf oq_X12_times_73 Th25 (k := 111) (d := 12) rfl rfl ax26 ?_
        have rx26 := (rx26.symm.trans eh25_111_48 : x26.toInt = x24.toInt)
        refine ex_if0 oq_X12_times_76 (t := 83) rfl rfl (fun (c27 : x26.toInt = 0) => ?_) (fun (c27 : ¬ (x26.toInt = 0)) => ?_)
        · refine ex_ll oq_X12_times_83 gL15_1 ?_
          refine ex_ll oq_X12_times_84 gL15_3 ?_
          refine ex_lmulV oq_X12_times_85 (m := l.toInt * r.toInt) rfl (by omega) (fun x28 hx28 => ?_)
          exact ex_retl oq_X12_times_86 rfl (hQ x28 h25 Th25 wh25 (.inl ⟨by omega, by omega, by rw [hx28]; exact zB12_y (by omega)⟩))
        · exfalso; omega
      · exfalso; omega
  · refine ex_ll oq_X12_times_6 rfl ?_
    refine ex_lc oq_X12_times_7 (m := 0) (by decide) (fun x29 hx29 => ?_)
    refine ex_lcmpV oq_X12_times_8 (fun x30 hx30 => ?_)
    refine ex_if0 oq_X12_times_9 (t := 48) rfl rfl (fun (c31 : x30.toInt = 0) => ?_) (fun (c31 : ¬ (x30.toInt = 0)) => ?_)
    · have hp : l.toInt * r.toInt = 0 := by rw [show r.toInt = 0 from by omega, Int.mul_zero]
      refine ex_ic oq_X12_times_48 (m := 0) (by decide) (fun x32 hx32 => ?_)
      refine ex_iswA oq_X12_times_49 (fun L33 gL33_5 kL33 => ?_)
      have gL33_0 : cv_get L33 0 = some (cv_r 111) := kL33 0 _ (by decide) (fun q => absurd q (by decide)) rfl
      have gL33_1 : cv_get L33 1 = some (cv_l l) := kL33 1 _ (by decide) (fun q => absurd q (by decide)) rfl
      have gL33_3 : cv_get L33 3 = some (cv_l r) := kL33 3 _ (by decide) (fun q => absurd q (by decide)) rfl
      refine ex_al oq_X12_times_51 gL33_0 ?_
      refine ex_al oq_X12_times_52 gL33_0 ?_
      obtain ⟨x34, ax34, rx34, lx34, ux34⟩ := fi_isError hT
      refine ex_gf oq_X12_times_53 hT (k := 111) (d := 12) rfl rfl ax34 ?_
      have rx34 := (rx34.symm.trans he : x34.toInt = e)
      refine ex_if0 oq_X12_times_56 (t := 64) rfl rfl (fun (c35 : ¬ x34.toInt = 0) => ?_) (fun (c35 : ¬ (¬ x34.toInt = 0)) => ?_)
      · refine ex_ic oq_X12_times_64 (m := 1) (by decide) (fun x36 hx36 => ?_)
        refine ex_go oq_X12_times_65 (t := 69) rfl rfl ?_
        refine ex_pfb oq_X12_times_69 hT (k := 111) (d := 12) rfl rfl rfl (by omega) (by omega) (fun h37 Th37 wh37 => ?_)
        have eh37_111_48 : ri_at h37 111 48 = x36.toInt := ri_self wh37
        refine ex_al oq_X12_times_72 gL33_0 ?_
        obtain ⟨x38, ax38, rx38, lx38, ux38⟩ := fi_isError Th37
        refine ex_gf oq_X12_times_73 Th37 (k := 111) (d := 12) rfl rfl ax38 ?_
        have rx38 := (rx38.symm.trans eh37_111_48 : x38.toInt = x36.toInt)
        refine ex_if0 oq_X12_times_76 (t := 83) rfl rfl (fun (c39 : x38.toInt = 0) => ?_) (fun (c39 : ¬ (x38.toInt = 0)) => ?_)
        · exfalso; omega
        · refine ex_lc oq_X12_times_79 (m := 0) (by decide) (fun x40 hx40 => ?_)
          refine ex_go oq_X12_times_80 (t := 86) rfl rfl ?_
          exact ex_retl oq_X12_times_86 rfl (hQ x40 h37 Th37 wh37 (.inr ⟨by omega, .inl (by omega), by omega⟩))
      · refine ex_ilw oq_X12_times_59 gL33_5 ?_
        refine ex_if0 oq_X12_times_61 (t := 68) rfl rfl (fun (c41 : x32.toInt = 0) => ?_) (fun (c41 : ¬ (x32.toInt = 0)) => ?_)
        · refine ex_ic oq_X12_times_68 (m := 0) (by decide) (fun x42 hx42 => ?_)
          refine ex_pfb oq_X12_times_69 hT (k := 111) (d := 12) rfl rfl rfl (by omega) (by omega) (fun h43 Th43 wh43 => ?_)
          have eh43_111_48 : ri_at h43 111 48 = x42.toInt := ri_self wh43
          refine ex_al oq_X12_times_72 gL33_0 ?_
          obtain ⟨x44, ax44, rx44, lx44, ux44⟩ := fi_isError Th43
          refine ex_gf oq_X12_times_73 Th43 (k := 111) (d := 12) rfl rfl ax44 ?_
          have rx44 := (rx44.symm.trans eh43_111_48 : x44.toInt = x42.toInt)
          refine ex_if0 oq_X12_times_76 (t := 83) rfl rfl (fun (c45 : x44.toInt = 0) => ?_) (fun (c45 : ¬ (x44.toInt = 0)) => ?_)
          · refine ex_ll oq_X12_times_83 gL33_1 ?_
            refine ex_ll oq_X12_times_84 gL33_3 ?_
            refine ex_lmulV oq_X12_times_85 (m := l.toInt * r.toInt) rfl (by omega) (fun x46 hx46 => ?_)
            exact ex_retl oq_X12_times_86 rfl (hQ x46 h43 Th43 wh43 (.inl ⟨by omega, by omega, by rw [hx46]; exact zB12_y (by omega)⟩))
          · exfalso; omega
        · exfalso; omega
    · refine ex_ll oq_X12_times_12 rfl ?_
      refine ex_lc oq_X12_times_13 (m := 0) (by decide) (fun x47 hx47 => ?_)
      refine ex_lcmpV oq_X12_times_14 (fun x48 hx48 => ?_)
      refine ex_if0 oq_X12_times_15 (t := 23) rfl rfl (fun (c49 : 0 ≤ x48.toInt) => ?_) (fun (c49 : ¬ (0 ≤ x48.toInt)) => ?_)
      · refine ex_ll oq_X12_times_23 rfl ?_
        refine ex_ldc2V oq_X12_times_24 (m := 1000000000000) (by decide) (fun x50 hx50 => ?_)
        refine ex_ll oq_X12_times_27 rfl ?_
        refine ex_lc oq_X12_times_28 (m := 0) (by decide) (fun x51 hx51 => ?_)
        refine ex_lcmpV oq_X12_times_29 (fun x52 hx52 => ?_)
        refine ex_if0 oq_X12_times_30 (t := 38) rfl rfl (fun (c53 : 0 ≤ x52.toInt) => ?_) (fun (c53 : ¬ (0 ≤ x52.toInt)) => ?_)
        · refine ex_ll oq_X12_times_38 rfl ?_
          refine ex_ldivV oq_X12_times_39 (by omega) (by omega) (fun x54 hx54 => ?_)
          replace hx54 : x54.toInt = Int.tdiv 1000000000000 l.toInt := by rw [hx54, show x50.toInt = 1000000000000 from by omega]
          have zt := ztm (M := 1000000000000) (a := l.toInt) (b := r.toInt) (by omega) (by omega) (by omega)
          have zz := zab (a := l.toInt) (b := r.toInt) (x := l.toInt) (y := r.toInt) (by omega) (by omega)
          refine ex_lcmpV oq_X12_times_40 (fun x55 hx55 => ?_)
          refine ex_if0 oq_X12_times_41 (t := 48) rfl rfl (fun (c56 : x55.toInt ≤ 0) => ?_) (fun (c56 : ¬ (x55.toInt ≤ 0)) => ?_)
          · refine ex_ic oq_X12_times_48 (m := 0) (by decide) (fun x57 hx57 => ?_)
            refine ex_iswA oq_X12_times_49 (fun L58 gL58_5 kL58 => ?_)
            have gL58_0 : cv_get L58 0 = some (cv_r 111) := kL58 0 _ (by decide) (fun q => absurd q (by decide)) rfl
            have gL58_1 : cv_get L58 1 = some (cv_l l) := kL58 1 _ (by decide) (fun q => absurd q (by decide)) rfl
            have gL58_3 : cv_get L58 3 = some (cv_l r) := kL58 3 _ (by decide) (fun q => absurd q (by decide)) rfl
            refine ex_al oq_X12_times_51 gL58_0 ?_
            refine ex_al oq_X12_times_52 gL58_0 ?_
            obtain ⟨x59, ax59, rx59, lx59, ux59⟩ := fi_isError hT
            refine ex_gf oq_X12_times_53 hT (k := 111) (d := 12) rfl rfl ax59 ?_
            have rx59 := (rx59.symm.trans he : x59.toInt = e)
            refine ex_if0 oq_X12_times_56 (t := 64) rfl rfl (fun (c60 : ¬ x59.toInt = 0) => ?_) (fun (c60 : ¬ (¬ x59.toInt = 0)) => ?_)
            · refine ex_ic oq_X12_times_64 (m := 1) (by decide) (fun x61 hx61 => ?_)
              refine ex_go oq_X12_times_65 (t := 69) rfl rfl ?_
              refine ex_pfb oq_X12_times_69 hT (k := 111) (d := 12) rfl rfl rfl (by omega) (by omega) (fun h62 Th62 wh62 => ?_)
              have eh62_111_48 : ri_at h62 111 48 = x61.toInt := ri_self wh62
              refine ex_al oq_X12_times_72 gL58_0 ?_
              obtain ⟨x63, ax63, rx63, lx63, ux63⟩ := fi_isError Th62
              refine ex_gf oq_X12_times_73 Th62 (k := 111) (d := 12) rfl rfl ax63 ?_
              have rx63 := (rx63.symm.trans eh62_111_48 : x63.toInt = x61.toInt)
              refine ex_if0 oq_X12_times_76 (t := 83) rfl rfl (fun (c64 : x63.toInt = 0) => ?_) (fun (c64 : ¬ (x63.toInt = 0)) => ?_)
              · exfalso; omega
              · refine ex_lc oq_X12_times_79 (m := 0) (by decide) (fun x65 hx65 => ?_)
                refine ex_go oq_X12_times_80 (t := 86) rfl rfl ?_
                exact ex_retl oq_X12_times_86 rfl (hQ x65 h62 Th62 wh62 (.inr ⟨by omega, .inl (by omega), by omega⟩))
            · refine ex_ilw oq_X12_times_59 gL58_5 ?_
              refine ex_if0 oq_X12_times_61 (t := 68) rfl rfl (fun (c66 : x57.toInt = 0) => ?_) (fun (c66 : ¬ (x57.toInt = 0)) => ?_)
              · refine ex_ic oq_X12_times_68 (m := 0) (by decide) (fun x67 hx67 => ?_)
                refine ex_pfb oq_X12_times_69 hT (k := 111) (d := 12) rfl rfl rfl (by omega) (by omega) (fun h68 Th68 wh68 => ?_)
                have eh68_111_48 : ri_at h68 111 48 = x67.toInt := ri_self wh68
                refine ex_al oq_X12_times_72 gL58_0 ?_
                obtain ⟨x69, ax69, rx69, lx69, ux69⟩ := fi_isError Th68
                refine ex_gf oq_X12_times_73 Th68 (k := 111) (d := 12) rfl rfl ax69 ?_
                have rx69 := (rx69.symm.trans eh68_111_48 : x69.toInt = x67.toInt)
                refine ex_if0 oq_X12_times_76 (t := 83) rfl rfl (fun (c70 : x69.toInt = 0) => ?_) (fun (c70 : ¬ (x69.toInt = 0)) => ?_)
                · refine ex_ll oq_X12_times_83 gL58_1 ?_
                  refine ex_ll oq_X12_times_84 gL58_3 ?_
                  refine ex_lmulV oq_X12_times_85 (m := l.toInt * r.toInt) rfl (by omega) (fun x71 hx71 => ?_)
                  exact ex_retl oq_X12_times_86 rfl (hQ x71 h68 Th68 wh68 (.inl ⟨by omega, by omega, by rw [hx71]; exact zB12_y (by omega)⟩))
                · exfalso; omega
              · exfalso; omega
          · refine ex_ic oq_X12_times_44 (m := 1) (by decide) (fun x72 hx72 => ?_)
            refine ex_go oq_X12_times_45 (t := 49) rfl rfl ?_
            refine ex_iswA oq_X12_times_49 (fun L73 gL73_5 kL73 => ?_)
            have gL73_0 : cv_get L73 0 = some (cv_r 111) := kL73 0 _ (by decide) (fun q => absurd q (by decide)) rfl
            have gL73_1 : cv_get L73 1 = some (cv_l l) := kL73 1 _ (by decide) (fun q => absurd q (by decide)) rfl
            have gL73_3 : cv_get L73 3 = some (cv_l r) := kL73 3 _ (by decide) (fun q => absurd q (by decide)) rfl
            refine ex_al oq_X12_times_51 gL73_0 ?_
            refine ex_al oq_X12_times_52 gL73_0 ?_
            obtain ⟨x74, ax74, rx74, lx74, ux74⟩ := fi_isError hT
            refine ex_gf oq_X12_times_53 hT (k := 111) (d := 12) rfl rfl ax74 ?_
            have rx74 := (rx74.symm.trans he : x74.toInt = e)
            refine ex_if0 oq_X12_times_56 (t := 64) rfl rfl (fun (c75 : ¬ x74.toInt = 0) => ?_) (fun (c75 : ¬ (¬ x74.toInt = 0)) => ?_)
            · refine ex_ic oq_X12_times_64 (m := 1) (by decide) (fun x76 hx76 => ?_)
              refine ex_go oq_X12_times_65 (t := 69) rfl rfl ?_
              refine ex_pfb oq_X12_times_69 hT (k := 111) (d := 12) rfl rfl rfl (by omega) (by omega) (fun h77 Th77 wh77 => ?_)
              have eh77_111_48 : ri_at h77 111 48 = x76.toInt := ri_self wh77
              refine ex_al oq_X12_times_72 gL73_0 ?_
              obtain ⟨x78, ax78, rx78, lx78, ux78⟩ := fi_isError Th77
              refine ex_gf oq_X12_times_73 Th77 (k := 111) (d := 12) rfl rfl ax78 ?_
              have rx78 := (rx78.symm.trans eh77_111_48 : x78.toInt = x76.toInt)
              refine ex_if0 oq_X12_times_76 (t := 83) rfl rfl (fun (c79 : x78.toInt = 0) => ?_) (fun (c79 : ¬ (x78.toInt = 0)) => ?_)
              · exfalso; omega
              · refine ex_lc oq_X12_times_79 (m := 0) (by decide) (fun x80 hx80 => ?_)
                refine ex_go oq_X12_times_80 (t := 86) rfl rfl ?_
                exact ex_retl oq_X12_times_86 rfl (hQ x80 h77 Th77 wh77 (.inr ⟨by omega, .inl (by omega), by omega⟩))
            · refine ex_ilw oq_X12_times_59 gL73_5 ?_
              refine ex_if0 oq_X12_times_61 (t := 68) rfl rfl (fun (c81 : x72.toInt = 0) => ?_) (fun (c81 : ¬ (x72.toInt = 0)) => ?_)
              · exfalso; omega
              · refine ex_ic oq_X12_times_64 (m := 1) (by decide) (fun x82 hx82 => ?_)
                refine ex_go oq_X12_times_65 (t := 69) rfl rfl ?_
                refine ex_pfb oq_X12_times_69 hT (k := 111) (d := 12) rfl rfl rfl (by omega) (by omega) (fun h83 Th83 wh83 => ?_)
                have eh83_111_48 : ri_at h83 111 48 = x82.toInt := ri_self wh83
                refine ex_al oq_X12_times_72 gL73_0 ?_
                obtain ⟨x84, ax84, rx84, lx84, ux84⟩ := fi_isError Th83
                refine ex_gf oq_X12_times_73 Th83 (k := 111) (d := 12) rfl rfl ax84 ?_
                have rx84 := (rx84.symm.trans eh83_111_48 : x84.toInt = x82.toInt)
                refine ex_if0 oq_X12_times_76 (t := 83) rfl rfl (fun (c85 : x84.toInt = 0) => ?_) (fun (c85 : ¬ (x84.toInt = 0)) => ?_)
                · exfalso; omega
                · refine ex_lc oq_X12_times_79 (m := 0) (by decide) (fun x86 hx86 => ?_)
                  refine ex_go oq_X12_times_80 (t := 86) rfl rfl ?_
                  exact ex_retl oq_X12_times_86 rfl (hQ x86 h83 Th83 wh83 (.inr ⟨by omega, .inr (zB12_n (by omega)), by omega⟩))
        · refine ex_ll oq_X12_times_33 rfl ?_
          refine ex_lnegV oq_X12_times_34 rfl (by omega) (fun x87 hx87 => ?_)
          refine ex_go oq_X12_times_35 (t := 39) rfl rfl ?_
          refine ex_ldivV oq_X12_times_39 (by omega) (by omega) (fun x88 hx88 => ?_)
          replace hx88 : x88.toInt = Int.tdiv 1000000000000 x87.toInt := by rw [hx88, show x50.toInt = 1000000000000 from by omega]
          have zt := ztm (M := 1000000000000) (a := x87.toInt) (b := r.toInt) (by omega) (by omega) (by omega)
          have zz := zab (a := l.toInt) (b := r.toInt) (x := x87.toInt) (y := r.toInt) (by omega) (by omega)
          refine ex_lcmpV oq_X12_times_40 (fun x89 hx89 => ?_)
          refine ex_if0 oq_X12_times_41 (t := 48) rfl rfl (fun (c90 : x89.toInt ≤ 0) => ?_) (fun (c90 : ¬ (x89.toInt ≤ 0)) => ?_)
          · refine ex_ic oq_X12_times_48 (m := 0) (by decide) (fun x91 hx91 => ?_)
            refine ex_iswA oq_X12_times_49 (fun L92 gL92_5 kL92 => ?_)
            have gL92_0 : cv_get L92 0 = some (cv_r 111) := kL92 0 _ (by decide) (fun q => absurd q (by decide)) rfl
            have gL92_1 : cv_get L92 1 = some (cv_l l) := kL92 1 _ (by decide) (fun q => absurd q (by decide)) rfl
            have gL92_3 : cv_get L92 3 = some (cv_l r) := kL92 3 _ (by decide) (fun q => absurd q (by decide)) rfl
            refine ex_al oq_X12_times_51 gL92_0 ?_
            refine ex_al oq_X12_times_52 gL92_0 ?_
            obtain ⟨x93, ax93, rx93, lx93, ux93⟩ := fi_isError hT
            refine ex_gf oq_X12_times_53 hT (k := 111) (d := 12) rfl rfl ax93 ?_
            have rx93 := (rx93.symm.trans he : x93.toInt = e)
            refine ex_if0 oq_X12_times_56 (t := 64) rfl rfl (fun (c94 : ¬ x93.toInt = 0) => ?_) (fun (c94 : ¬ (¬ x93.toInt = 0)) => ?_)
            · refine ex_ic oq_X12_times_64 (m := 1) (by decide) (fun x95 hx95 => ?_)
              refine ex_go oq_X12_times_65 (t := 69) rfl rfl ?_
              refine ex_pfb oq_X12_times_69 hT (k := 111) (d := 12) rfl rfl rfl (by omega) (by omega) (fun h96 Th96 wh96 => ?_)
              have eh96_111_48 : ri_at h96 111 48 = x95.toInt := ri_self wh96
              refine ex_al oq_X12_times_72 gL92_0 ?_
              obtain ⟨x97, ax97, rx97, lx97, ux97⟩ := fi_isError Th96
              refine ex_gf oq_X12_times_73 Th96 (k := 111) (d := 12) rfl rfl ax97 ?_
              have rx97 := (rx97.symm.trans eh96_111_48 : x97.toInt = x95.toInt)
              refine ex_if0 oq_X12_times_76 (t := 83) rfl rfl (fun (c98 : x97.toInt = 0) => ?_) (fun (c98 : ¬ (x97.toInt = 0)) => ?_)
              · exfalso; omega
              · refine ex_lc oq_X12_times_79 (m := 0) (by decide) (fun x99 hx99 => ?_)
                refine ex_go oq_X12_times_80 (t := 86) rfl rfl ?_
                exact ex_retl oq_X12_times_86 rfl (hQ x99 h96 Th96 wh96 (.inr ⟨by omega, .inl (by omega), by omega⟩))
            · refine ex_ilw oq_X12_times_59 gL92_5 ?_
              refine ex_if0 oq_X12_times_61 (t := 68) rfl rfl (fun (c100 : x91.toInt = 0) => ?_) (fun (c100 : ¬ (x91.toInt = 0)) => ?_)
              · refine ex_ic oq_X12_times_68 (m := 0) (by decide) (fun x101 hx101 => ?_)
                refine ex_pfb oq_X12_times_69 hT (k := 111) (d := 12) rfl rfl rfl (by omega) (by omega) (fun h102 Th102 wh102 => ?_)
                have eh102_111_48 : ri_at h102 111 48 = x101.toInt := ri_self wh102
                refine ex_al oq_X12_times_72 gL92_0 ?_
                obtain ⟨x103, ax103, rx103, lx103, ux103⟩ := fi_isError Th102
                refine ex_gf oq_X12_times_73 Th102 (k := 111) (d := 12) rfl rfl ax103 ?_
                have rx103 := (rx103.symm.trans eh102_111_48 : x103.toInt = x101.toInt)
                refine ex_if0 oq_X12_times_76 (t := 83) rfl rfl (fun (c104 : x103.toInt = 0) => ?_) (fun (c104 : ¬ (x103.toInt = 0)) => ?_)
                · refine ex_ll oq_X12_times_83 gL92_1 ?_
                  refine ex_ll oq_X12_times_84 gL92_3 ?_
                  refine ex_lmulV oq_X12_times_85 (m := l.toInt * r.toInt) rfl (by omega) (fun x105 hx105 => ?_)
                  exact ex_retl oq_X12_times_86 rfl (hQ x105 h102 Th102 wh102 (.inl ⟨by omega, by omega, by rw [hx105]; exact zB12_y (by omega)⟩))
                · exfalso; omega
              · exfalso; omega
          · refine ex_ic oq_X12_times_44 (m := 1) (by decide) (fun x106 hx106 => ?_)
            refine ex_go oq_X12_times_45 (t := 49) rfl rfl ?_
            refine ex_iswA oq_X12_times_49 (fun L107 gL107_5 kL107 => ?_)
            have gL107_0 : cv_get L107 0 = some (cv_r 111) := kL107 0 _ (by decide) (fun q => absurd q (by decide)) rfl
            have gL107_1 : cv_get L107 1 = some (cv_l l) := kL107 1 _ (by decide) (fun q => absurd q (by decide)) rfl
            have gL107_3 : cv_get L107 3 = some (cv_l r) := kL107 3 _ (by decide) (fun q => absurd q (by decide)) rfl
            refine ex_al oq_X12_times_51 gL107_0 ?_
            refine ex_al oq_X12_times_52 gL107_0 ?_
            obtain ⟨x108, ax108, rx108, lx108, ux108⟩ := fi_isError hT
            refine ex_gf oq_X12_times_53 hT (k := 111) (d := 12) rfl rfl ax108 ?_
            have rx108 := (rx108.symm.trans he : x108.toInt = e)
            refine ex_if0 oq_X12_times_56 (t := 64) rfl rfl (fun (c109 : ¬ x108.toInt = 0) => ?_) (fun (c109 : ¬ (¬ x108.toInt = 0)) => ?_)
            · refine ex_ic oq_X12_times_64 (m := 1) (by decide) (fun x110 hx110 => ?_)
              refine ex_go oq_X12_times_65 (t := 69) rfl rfl ?_
              refine ex_pfb oq_X12_times_69 hT (k := 111) (d := 12) rfl rfl rfl (by omega) (by omega) (fun h111 Th111 wh111 => ?_)
              have eh111_111_48 : ri_at h111 111 48 = x110.toInt := ri_self wh111
              refine ex_al oq_X12_times_72 gL107_0 ?_
              obtain ⟨x112, ax112, rx112, lx112, ux112⟩ := fi_isError Th111
              refine ex_gf oq_X12_times_73 Th111 (k := 111) (d := 12) rfl rfl ax112 ?_
              have rx112 := (rx112.symm.trans eh111_111_48 : x112.toInt = x110.toInt)
              refine ex_if0 oq_X12_times_76 (t := 83) rfl rfl (fun (c113 : x112.toInt = 0) => ?_) (fun (c113 : ¬ (x112.toInt = 0)) => ?_)
              · exfalso; omega
              · refine ex_lc oq_X12_times_79 (m := 0) (by decide) (fun x114 hx114 => ?_)
                refine ex_go oq_X12_times_80 (t := 86) rfl rfl ?_
                exact ex_retl oq_X12_times_86 rfl (hQ x114 h111 Th111 wh111 (.inr ⟨by omega, .inl (by omega), by omega⟩))
            · refine ex_ilw oq_X12_times_59 gL107_5 ?_
              refine ex_if0 oq_X12_times_61 (t := 68) rfl rfl (fun (c115 : x106.toInt = 0) => ?_) (fun (c115 : ¬ (x106.toInt = 0)) => ?_)
              · exfalso; omega
              · refine ex_ic oq_X12_times_64 (m := 1) (by decide) (fun x116 hx116 => ?_)
                refine ex_go oq_X12_times_65 (t := 69) rfl rfl ?_
                refine ex_pfb oq_X12_times_69 hT (k := 111) (d := 12) rfl rfl rfl (by omega) (by omega) (fun h117 Th117 wh117 => ?_)
                have eh117_111_48 : ri_at h117 111 48 = x116.toInt := ri_self wh117
                refine ex_al oq_X12_times_72 gL107_0 ?_
                obtain ⟨x118, ax118, rx118, lx118, ux118⟩ := fi_isError Th117
                refine ex_gf oq_X12_times_73 Th117 (k := 111) (d := 12) rfl rfl ax118 ?_
                have rx118 := (rx118.symm.trans eh117_111_48 : x118.toInt = x116.toInt)
                refine ex_if0 oq_X12_times_76 (t := 83) rfl rfl (fun (c119 : x118.toInt = 0) => ?_) (fun (c119 : ¬ (x118.toInt = 0)) => ?_)
                · exfalso; omega
                · refine ex_lc oq_X12_times_79 (m := 0) (by decide) (fun x120 hx120 => ?_)
                  refine ex_go oq_X12_times_80 (t := 86) rfl rfl ?_
                  exact ex_retl oq_X12_times_86 rfl (hQ x120 h117 Th117 wh117 (.inr ⟨by omega, .inr (zB12_n (by omega)), by omega⟩))
      · refine ex_ll oq_X12_times_18 rfl ?_
        refine ex_lnegV oq_X12_times_19 rfl (by omega) (fun x121 hx121 => ?_)
        refine ex_go oq_X12_times_20 (t := 24) rfl rfl ?_
        refine ex_ldc2V oq_X12_times_24 (m := 1000000000000) (by decide) (fun x122 hx122 => ?_)
        refine ex_ll oq_X12_times_27 rfl ?_
        refine ex_lc oq_X12_times_28 (m := 0) (by decide) (fun x123 hx123 => ?_)
        refine ex_lcmpV oq_X12_times_29 (fun x124 hx124 => ?_)
        refine ex_if0 oq_X12_times_30 (t := 38) rfl rfl (fun (c125 : 0 ≤ x124.toInt) => ?_) (fun (c125 : ¬ (0 ≤ x124.toInt)) => ?_)
        · refine ex_ll oq_X12_times_38 rfl ?_
          refine ex_ldivV oq_X12_times_39 (by omega) (by omega) (fun x126 hx126 => ?_)
          replace hx126 : x126.toInt = Int.tdiv 1000000000000 l.toInt := by rw [hx126, show x122.toInt = 1000000000000 from by omega]
          have zt := ztm (M := 1000000000000) (a := l.toInt) (b := x121.toInt) (by omega) (by omega) (by omega)
          have zz := zab (a := l.toInt) (b := r.toInt) (x := l.toInt) (y := x121.toInt) (by omega) (by omega)
          refine ex_lcmpV oq_X12_times_40 (fun x127 hx127 => ?_)
          refine ex_if0 oq_X12_times_41 (t := 48) rfl rfl (fun (c128 : x127.toInt ≤ 0) => ?_) (fun (c128 : ¬ (x127.toInt ≤ 0)) => ?_)
          · refine ex_ic oq_X12_times_48 (m := 0) (by decide) (fun x129 hx129 => ?_)
            refine ex_iswA oq_X12_times_49 (fun L130 gL130_5 kL130 => ?_)
            have gL130_0 : cv_get L130 0 = some (cv_r 111) := kL130 0 _ (by decide) (fun q => absurd q (by decide)) rfl
            have gL130_1 : cv_get L130 1 = some (cv_l l) := kL130 1 _ (by decide) (fun q => absurd q (by decide)) rfl
            have gL130_3 : cv_get L130 3 = some (cv_l r) := kL130 3 _ (by decide) (fun q => absurd q (by decide)) rfl
            refine ex_al oq_X12_times_51 gL130_0 ?_
            refine ex_al oq_X12_times_52 gL130_0 ?_
            obtain ⟨x131, ax131, rx131, lx131, ux131⟩ := fi_isError hT
            refine ex_gf oq_X12_times_53 hT (k := 111) (d := 12) rfl rfl ax131 ?_
            have rx131 := (rx131.symm.trans he : x131.toInt = e)
            refine ex_if0 oq_X12_times_56 (t := 64) rfl rfl (fun (c132 : ¬ x131.toInt = 0) => ?_) (fun (c132 : ¬ (¬ x131.toInt = 0)) => ?_)
            · refine ex_ic oq_X12_times_64 (m := 1) (by decide) (fun x133 hx133 => ?_)
              refine ex_go oq_X12_times_65 (t := 69) rfl rfl ?_
              refine ex_pfb oq_X12_times_69 hT (k := 111) (d := 12) rfl rfl rfl (by omega) (by omega) (fun h134 Th134 wh134 => ?_)
              have eh134_111_48 : ri_at h134 111 48 = x133.toInt := ri_self wh134
              refine ex_al oq_X12_times_72 gL130_0 ?_
              obtain ⟨x135, ax135, rx135, lx135, ux135⟩ := fi_isError Th134
              refine ex_gf oq_X12_times_73 Th134 (k := 111) (d := 12) rfl rfl ax135 ?_
              have rx135 := (rx135.symm.trans eh134_111_48 : x135.toInt = x133.toInt)
              refine ex_if0 oq_X12_times_76 (t := 83) rfl rfl (fun (c136 : x135.toInt = 0) => ?_) (fun (c136 : ¬ (x135.toInt = 0)) => ?_)
              · exfalso; omega
              · refine ex_lc oq_X12_times_79 (m := 0) (by decide) (fun x137 hx137 => ?_)
                refine ex_go oq_X12_times_80 (t := 86) rfl rfl ?_
                exact ex_retl oq_X12_times_86 rfl (hQ x137 h134 Th134 wh134 (.inr ⟨by omega, .inl (by omega), by omega⟩))
            · refine ex_ilw oq_X12_times_59 gL130_5 ?_
              refine ex_if0 oq_X12_times_61 (t := 68) rfl rfl (fun (c138 : x129.toInt = 0) => ?_) (fun (c138 : ¬ (x129.toInt = 0)) => ?_)
              · refine ex_ic oq_X12_times_68 (m := 0) (by decide) (fun x139 hx139 => ?_)
                refine ex_pfb oq_X12_times_69 hT (k := 111) (d := 12) rfl rfl rfl (by omega) (by omega) (fun h140 Th140 wh140 => ?_)
                have eh140_111_48 : ri_at h140 111 48 = x139.toInt := ri_self wh140
                refine ex_al oq_X12_times_72 gL130_0 ?_
                obtain ⟨x141, ax141, rx141, lx141, ux141⟩ := fi_isError Th140
                refine ex_gf oq_X12_times_73 Th140 (k := 111) (d := 12) rfl rfl ax141 ?_
                have rx141 := (rx141.symm.trans eh140_111_48 : x141.toInt = x139.toInt)
                refine ex_if0 oq_X12_times_76 (t := 83) rfl rfl (fun (c142 : x141.toInt = 0) => ?_) (fun (c142 : ¬ (x141.toInt = 0)) => ?_)
                · refine ex_ll oq_X12_times_83 gL130_1 ?_
                  refine ex_ll oq_X12_times_84 gL130_3 ?_
                  refine ex_lmulV oq_X12_times_85 (m := l.toInt * r.toInt) rfl (by omega) (fun x143 hx143 => ?_)
                  exact ex_retl oq_X12_times_86 rfl (hQ x143 h140 Th140 wh140 (.inl ⟨by omega, by omega, by rw [hx143]; exact zB12_y (by omega)⟩))
                · exfalso; omega
              · exfalso; omega
          · refine ex_ic oq_X12_times_44 (m := 1) (by decide) (fun x144 hx144 => ?_)
            refine ex_go oq_X12_times_45 (t := 49) rfl rfl ?_
            refine ex_iswA oq_X12_times_49 (fun L145 gL145_5 kL145 => ?_)
            have gL145_0 : cv_get L145 0 = some (cv_r 111) := kL145 0 _ (by decide) (fun q => absurd q (by decide)) rfl
            have gL145_1 : cv_get L145 1 = some (cv_l l) := kL145 1 _ (by decide) (fun q => absurd q (by decide)) rfl
            have gL145_3 : cv_get L145 3 = some (cv_l r) := kL145 3 _ (by decide) (fun q => absurd q (by decide)) rfl
            refine ex_al oq_X12_times_51 gL145_0 ?_
            refine ex_al oq_X12_times_52 gL145_0 ?_
            obtain ⟨x146, ax146, rx146, lx146, ux146⟩ := fi_isError hT
            refine ex_gf oq_X12_times_53 hT (k := 111) (d := 12) rfl rfl ax146 ?_
            have rx146 := (rx146.symm.trans he : x146.toInt = e)
            refine ex_if0 oq_X12_times_56 (t := 64) rfl rfl (fun (c147 : ¬ x146.toInt = 0) => ?_) (fun (c147 : ¬ (¬ x146.toInt = 0)) => ?_)
            · refine ex_ic oq_X12_times_64 (m := 1) (by decide) (fun x148 hx148 => ?_)
              refine ex_go oq_X12_times_65 (t := 69) rfl rfl ?_
              refine ex_pfb oq_X12_times_69 hT (k := 111) (d := 12) rfl rfl rfl (by omega) (by omega) (fun h149 Th149 wh149 => ?_)
              have eh149_111_48 : ri_at h149 111 48 = x148.toInt := ri_self wh149
              refine ex_al oq_X12_times_72 gL145_0 ?_
              obtain ⟨x150, ax150, rx150, lx150, ux150⟩ := fi_isError Th149
              refine ex_gf oq_X12_times_73 Th149 (k := 111) (d := 12) rfl rfl ax150 ?_
              have rx150 := (rx150.symm.trans eh149_111_48 : x150.toInt = x148.toInt)
              refine ex_if0 oq_X12_times_76 (t := 83) rfl rfl (fun (c151 : x150.toInt = 0) => ?_) (fun (c151 : ¬ (x150.toInt = 0)) => ?_)
              · exfalso; omega
              · refine ex_lc oq_X12_times_79 (m := 0) (by decide) (fun x152 hx152 => ?_)
                refine ex_go oq_X12_times_80 (t := 86) rfl rfl ?_
                exact ex_retl oq_X12_times_86 rfl (hQ x152 h149 Th149 wh149 (.inr ⟨by omega, .inl (by omega), by omega⟩))
            · refine ex_ilw oq_X12_times_59 gL145_5 ?_
              refine ex_if0 oq_X12_times_61 (t := 68) rfl rfl (fun (c153 : x144.toInt = 0) => ?_) (fun (c153 : ¬ (x144.toInt = 0)) => ?_)
              · exfalso; omega
              · refine ex_ic oq_X12_times_64 (m := 1) (by decide) (fun x154 hx154 => ?_)
                refine ex_go oq_X12_times_65 (t := 69) rfl rfl ?_
                refine ex_pfb oq_X12_times_69 hT (k := 111) (d := 12) rfl rfl rfl (by omega) (by omega) (fun h155 Th155 wh155 => ?_)
                have eh155_111_48 : ri_at h155 111 48 = x154.toInt := ri_self wh155
                refine ex_al oq_X12_times_72 gL145_0 ?_
                obtain ⟨x156, ax156, rx156, lx156, ux156⟩ := fi_isError Th155
                refine ex_gf oq_X12_times_73 Th155 (k := 111) (d := 12) rfl rfl ax156 ?_
                have rx156 := (rx156.symm.trans eh155_111_48 : x156.toInt = x154.toInt)
                refine ex_if0 oq_X12_times_76 (t := 83) rfl rfl (fun (c157 : x156.toInt = 0) => ?_) (fun (c157 : ¬ (x156.toInt = 0)) => ?_)
                · exfalso; omega
                · refine ex_lc oq_X12_times_79 (m := 0) (by decide) (fun x158 hx158 => ?_)
                  refine ex_go oq_X12_times_80 (t := 86) rfl rfl ?_
                  exact ex_retl oq_X12_times_86 rfl (hQ x158 h155 Th155 wh155 (.inr ⟨by omega, .inr (zB12_n (by omega)), by omega⟩))
        · refine ex_ll oq_X12_times_33 rfl ?_
          refine ex_lnegV oq_X12_times_34 rfl (by omega) (fun x159 hx159 => ?_)
          refine ex_go oq_X12_times_35 (t := 39) rfl rfl ?_
          refine ex_ldivV oq_X12_times_39 (by omega) (by omega) (fun x160 hx160 => ?_)
          replace hx160 : x160.toInt = Int.tdiv 1000000000000 x159.toInt := by rw [hx160, show x122.toInt = 1000000000000 from by omega]
          have zt := ztm (M := 1000000000000) (a := x159.toInt) (b := x121.toInt) (by omega) (by omega) (by omega)
          have zz := zab (a := l.toInt) (b := r.toInt) (x := x159.toInt) (y := x121.toInt) (by omega) (by omega)
          refine ex_lcmpV oq_X12_times_40 (fun x161 hx161 => ?_)
          refine ex_if0 oq_X12_times_41 (t := 48) rfl rfl (fun (c162 : x161.toInt ≤ 0) => ?_) (fun (c162 : ¬ (x161.toInt ≤ 0)) => ?_)
          · refine ex_ic oq_X12_times_48 (m := 0) (by decide) (fun x163 hx163 => ?_)
            refine ex_iswA oq_X12_times_49 (fun L164 gL164_5 kL164 => ?_)
            have gL164_0 : cv_get L164 0 = some (cv_r 111) := kL164 0 _ (by decide) (fun q => absurd q (by decide)) rfl
            have gL164_1 : cv_get L164 1 = some (cv_l l) := kL164 1 _ (by decide) (fun q => absurd q (by decide)) rfl
            have gL164_3 : cv_get L164 3 = some (cv_l r) := kL164 3 _ (by decide) (fun q => absurd q (by decide)) rfl
            refine ex_al oq_X12_times_51 gL164_0 ?_
            refine ex_al oq_X12_times_52 gL164_0 ?_
            obtain ⟨x165, ax165, rx165, lx165, ux165⟩ := fi_isError hT
            refine ex_gf oq_X12_times_53 hT (k := 111) (d := 12) rfl rfl ax165 ?_
            have rx165 := (rx165.symm.trans he : x165.toInt = e)
            refine ex_if0 oq_X12_times_56 (t := 64) rfl rfl (fun (c166 : ¬ x165.toInt = 0) => ?_) (fun (c166 : ¬ (¬ x165.toInt = 0)) => ?_)
            · refine ex_ic oq_X12_times_64 (m := 1) (by decide) (fun x167 hx167 => ?_)
              refine ex_go oq_X12_times_65 (t := 69) rfl rfl ?_
              refine ex_pfb oq_X12_times_69 hT (k := 111) (d := 12) rfl rfl rfl (by omega) (by omega) (fun h168 Th168 wh168 => ?_)
              have eh168_111_48 : ri_at h168 111 48 = x167.toInt := ri_self wh168
              refine ex_al oq_X12_times_72 gL164_0 ?_
              obtain ⟨x169, ax169, rx169, lx169, ux169⟩ := fi_isError Th168
              refine ex_gf oq_X12_times_73 Th168 (k := 111) (d := 12) rfl rfl ax169 ?_
              have rx169 := (rx169.symm.trans eh168_111_48 : x169.toInt = x167.toInt)
              refine ex_if0 oq_X12_times_76 (t := 83) rfl rfl (fun (c170 : x169.toInt = 0) => ?_) (fun (c170 : ¬ (x169.toInt = 0)) => ?_)
              · exfalso; omega
              · refine ex_lc oq_X12_times_79 (m := 0) (by decide) (fun x171 hx171 => ?_)
                refine ex_go oq_X12_times_80 (t := 86) rfl rfl ?_
                exact ex_retl oq_X12_times_86 rfl (hQ x171 h168 Th168 wh168 (.inr ⟨by omega, .inl (by omega), by omega⟩))
            · refine ex_ilw oq_X12_times_59 gL164_5 ?_
              refine ex_if0 oq_X12_times_61 (t := 68) rfl rfl (fun (c172 : x163.toInt = 0) => ?_) (fun (c172 : ¬ (x163.toInt = 0)) => ?_)
              · refine ex_ic oq_X12_times_68 (m := 0) (by decide) (fun x173 hx173 => ?_)
                refine ex_pfb oq_X12_times_69 hT (k := 111) (d := 12) rfl rfl rfl (by omega) (by omega) (fun h174 Th174 wh174 => ?_)
                have eh174_111_48 : ri_at h174 111 48 = x173.toInt := ri_self wh174
                refine ex_al oq_X12_times_72 gL164_0 ?_
                obtain ⟨x175, ax175, rx175, lx175, ux175⟩ := fi_isError Th174
                refine ex_gf oq_X12_times_73 Th174 (k := 111) (d := 12) rfl rfl ax175 ?_
                have rx175 := (rx175.symm.trans eh174_111_48 : x175.toInt = x173.toInt)
                refine ex_if0 oq_X12_times_76 (t := 83) rfl rfl (fun (c176 : x175.toInt = 0) => ?_) (fun (c176 : ¬ (x175.toInt = 0)) => ?_)
                · refine ex_ll oq_X12_times_83 gL164_1 ?_
                  refine ex_ll oq_X12_times_84 gL164_3 ?_
                  refine ex_lmulV oq_X12_times_85 (m := l.toInt * r.toInt) rfl (by omega) (fun x177 hx177 => ?_)
                  exact ex_retl oq_X12_times_86 rfl (hQ x177 h174 Th174 wh174 (.inl ⟨by omega, by omega, by rw [hx177]; exact zB12_y (by omega)⟩))
                · exfalso; omega
              · exfalso; omega
          · refine ex_ic oq_X12_times_44 (m := 1) (by decide) (fun x178 hx178 => ?_)
            refine ex_go oq_X12_times_45 (t := 49) rfl rfl ?_
            refine ex_iswA oq_X12_times_49 (fun L179 gL179_5 kL179 => ?_)
            have gL179_0 : cv_get L179 0 = some (cv_r 111) := kL179 0 _ (by decide) (fun q => absurd q (by decide)) rfl
            have gL179_1 : cv_get L179 1 = some (cv_l l) := kL179 1 _ (by decide) (fun q => absurd q (by decide)) rfl
            have gL179_3 : cv_get L179 3 = some (cv_l r) := kL179 3 _ (by decide) (fun q => absurd q (by decide)) rfl
            refine ex_al oq_X12_times_51 gL179_0 ?_
            refine ex_al oq_X12_times_52 gL179_0 ?_
            obtain ⟨x180, ax180, rx180, lx180, ux180⟩ := fi_isError hT
            refine ex_gf oq_X12_times_53 hT (k := 111) (d := 12) rfl rfl ax180 ?_
            have rx180 := (rx180.symm.trans he : x180.toInt = e)
            refine ex_if0 oq_X12_times_56 (t := 64) rfl rfl (fun (c181 : ¬ x180.toInt = 0) => ?_) (fun (c181 : ¬ (¬ x180.toInt = 0)) => ?_)
            · refine ex_ic oq_X12_times_64 (m := 1) (by decide) (fun x182 hx182 => ?_)
              refine ex_go oq_X12_times_65 (t := 69) rfl rfl ?_
              refine ex_pfb oq_X12_times_69 hT (k := 111) (d := 12) rfl rfl rfl (by omega) (by omega) (fun h183 Th183 wh183 => ?_)
              have eh183_111_48 : ri_at h183 111 48 = x182.toInt := ri_self wh183
              refine ex_al oq_X12_times_72 gL179_0 ?_
              obtain ⟨x184, ax184, rx184, lx184, ux184⟩ := fi_isError Th183
              refine ex_gf oq_X12_times_73 Th183 (k := 111) (d := 12) rfl rfl ax184 ?_
              have rx184 := (rx184.symm.trans eh183_111_48 : x184.toInt = x182.toInt)
              refine ex_if0 oq_X12_times_76 (t := 83) rfl rfl (fun (c185 : x184.toInt = 0) => ?_) (fun (c185 : ¬ (x184.toInt = 0)) => ?_)
              · exfalso; omega
              · refine ex_lc oq_X12_times_79 (m := 0) (by decide) (fun x186 hx186 => ?_)
                refine ex_go oq_X12_times_80 (t := 86) rfl rfl ?_
                exact ex_retl oq_X12_times_86 rfl (hQ x186 h183 Th183 wh183 (.inr ⟨by omega, .inl (by omega), by omega⟩))
            · refine ex_ilw oq_X12_times_59 gL179_5 ?_
              refine ex_if0 oq_X12_times_61 (t := 68) rfl rfl (fun (c187 : x178.toInt = 0) => ?_) (fun (c187 : ¬ (x178.toInt = 0)) => ?_)
              · exfalso; omega
              · refine ex_ic oq_X12_times_64 (m := 1) (by decide) (fun x188 hx188 => ?_)
                refine ex_go oq_X12_times_65 (t := 69) rfl rfl ?_
                refine ex_pfb oq_X12_times_69 hT (k := 111) (d := 12) rfl rfl rfl (by omega) (by omega) (fun h189 Th189 wh189 => ?_)
                have eh189_111_48 : ri_at h189 111 48 = x188.toInt := ri_self wh189
                refine ex_al oq_X12_times_72 gL179_0 ?_
                obtain ⟨x190, ax190, rx190, lx190, ux190⟩ := fi_isError Th189
                refine ex_gf oq_X12_times_73 Th189 (k := 111) (d := 12) rfl rfl ax190 ?_
                have rx190 := (rx190.symm.trans eh189_111_48 : x190.toInt = x188.toInt)
                refine ex_if0 oq_X12_times_76 (t := 83) rfl rfl (fun (c191 : x190.toInt = 0) => ?_) (fun (c191 : ¬ (x190.toInt = 0)) => ?_)
                · exfalso; omega
                · refine ex_lc oq_X12_times_79 (m := 0) (by decide) (fun x192 hx192 => ?_)
                  refine ex_go oq_X12_times_80 (t := 86) rfl rfl ?_
                  exact ex_retl oq_X12_times_86 rfl (hQ x192 h189 Th189 wh189 (.inr ⟨by omega, .inr (zB12_n (by omega)), by omega⟩))
theorem oq_X12_compares_0 : cw_ho 209 0 (.iload_n 0) 1 0 0 0 := rfl
theorem oq_X12_compares_1 : cw_ho 209 1 (.tableswitch 95 5 9 #[35, 47, 59, 71, 83]) 35 0 0 0 := rfl
theorem oq_X12_compares_36 : cw_ho 209 36 (.lload_n 1) 1 0 0 0 := rfl
theorem oq_X12_compares_37 : cw_ho 209 37 (.lload_n 3) 1 0 0 0 := rfl
theorem oq_X12_compares_38 : cw_ho 209 38 (.lcmp) 1 0 0 0 := rfl
theorem oq_X12_compares_39 : cw_ho 209 39 (.ifCond .ge 7) 3 0 0 0 := rfl
theorem oq_X12_compares_42 : cw_ho 209 42 (.iconst 1) 1 0 0 0 := rfl
theorem oq_X12_compares_43 : cw_ho 209 43 (.goto 4) 3 0 0 0 := rfl
theorem oq_X12_compares_46 : cw_ho 209 46 (.iconst 0) 1 0 0 0 := rfl
theorem oq_X12_compares_47 : cw_ho 209 47 (.ireturn) 1 0 0 0 := rfl
theorem oq_X12_compares_48 : cw_ho 209 48 (.lload_n 1) 1 0 0 0 := rfl
theorem oq_X12_compares_49 : cw_ho 209 49 (.lload_n 3) 1 0 0 0 := rfl
theorem oq_X12_compares_50 : cw_ho 209 50 (.lcmp) 1 0 0 0 := rfl
theorem oq_X12_compares_51 : cw_ho 209 51 (.ifCond .gt 7) 3 0 0 0 := rfl
theorem oq_X12_compares_54 : cw_ho 209 54 (.iconst 1) 1 0 0 0 := rfl
theorem oq_X12_compares_55 : cw_ho 209 55 (.goto 4) 3 0 0 0 := rfl
theorem oq_X12_compares_58 : cw_ho 209 58 (.iconst 0) 1 0 0 0 := rfl
theorem oq_X12_compares_59 : cw_ho 209 59 (.ireturn) 1 0 0 0 := rfl
theorem oq_X12_compares_60 : cw_ho 209 60 (.lload_n 1) 1 0 0 0 := rfl
theorem oq_X12_compares_61 : cw_ho 209 61 (.lload_n 3) 1 0 0 0 := rfl
theorem oq_X12_compares_62 : cw_ho 209 62 (.lcmp) 1 0 0 0 := rfl
theorem oq_X12_compares_63 : cw_ho 209 63 (.ifCond .ne 7) 3 0 0 0 := rfl
theorem oq_X12_compares_66 : cw_ho 209 66 (.iconst 1) 1 0 0 0 := rfl
theorem oq_X12_compares_67 : cw_ho 209 67 (.goto 4) 3 0 0 0 := rfl
theorem oq_X12_compares_70 : cw_ho 209 70 (.iconst 0) 1 0 0 0 := rfl
theorem oq_X12_compares_71 : cw_ho 209 71 (.ireturn) 1 0 0 0 := rfl
theorem oq_X12_compares_72 : cw_ho 209 72 (.lload_n 1) 1 0 0 0 := rfl
theorem oq_X12_compares_73 : cw_ho 209 73 (.lload_n 3) 1 0 0 0 := rfl
theorem oq_X12_compares_74 : cw_ho 209 74 (.lcmp) 1 0 0 0 := rfl
theorem oq_X12_compares_75 : cw_ho 209 75 (.ifCond .eq 7) 3 0 0 0 := rfl
theorem oq_X12_compares_78 : cw_ho 209 78 (.iconst 1) 1 0 0 0 := rfl
theorem oq_X12_compares_79 : cw_ho 209 79 (.goto 4) 3 0 0 0 := rfl
theorem oq_X12_compares_82 : cw_ho 209 82 (.iconst 0) 1 0 0 0 := rfl
theorem oq_X12_compares_83 : cw_ho 209 83 (.ireturn) 1 0 0 0 := rfl
theorem oq_X12_compares_84 : cw_ho 209 84 (.lload_n 1) 1 0 0 0 := rfl
theorem oq_X12_compares_85 : cw_ho 209 85 (.lload_n 3) 1 0 0 0 := rfl
theorem oq_X12_compares_86 : cw_ho 209 86 (.lcmp) 1 0 0 0 := rfl
theorem oq_X12_compares_87 : cw_ho 209 87 (.ifCond .lt 7) 3 0 0 0 := rfl
theorem oq_X12_compares_90 : cw_ho 209 90 (.iconst 1) 1 0 0 0 := rfl
theorem oq_X12_compares_91 : cw_ho 209 91 (.goto 4) 3 0 0 0 := rfl
theorem oq_X12_compares_94 : cw_ho 209 94 (.iconst 0) 1 0 0 0 := rfl
theorem oq_X12_compares_95 : cw_ho 209 95 (.ireturn) 1 0 0 0 := rfl
theorem oq_X12_compares_96 : cw_ho 209 96 (.lload_n 1) 1 0 0 0 := rfl
theorem oq_X12_compares_97 : cw_ho 209 97 (.lload_n 3) 1 0 0 0 := rfl
theorem oq_X12_compares_98 : cw_ho 209 98 (.lcmp) 1 0 0 0 := rfl
theorem oq_X12_compares_99 : cw_ho 209 99 (.ifCond .le 7) 3 0 0 0 := rfl
theorem oq_X12_compares_102 : cw_ho 209 102 (.iconst 1) 1 0 0 0 := rfl
theorem oq_X12_compares_103 : cw_ho 209 103 (.goto 4) 3 0 0 0 := rfl
theorem oq_X12_compares_106 : cw_ho 209 106 (.iconst 0) 1 0 0 0 := rfl
theorem oq_X12_compares_107 : cw_ho 209 107 (.ireturn) 1 0 0 0 := rfl
theorem rl_compares {k : Int32} {a b : Int64} (hk : 5 ≤ k.toInt ∧ k.toInt ≤ 10) (hQ : ∀ x : Int32, (0 ≤ x.toInt ∧ x.toInt ≤ 1) → zjn k.toInt a.toInt b.toInt = some x.toInt → Q (some (cv_i x), h)) : cw_X X 209 Q 0 (cv_ent 0 [cv_i k, cv_l a, cv_l b]) [] h := by
  refine ex_il oq_X12_compares_0 rfl ?_
  refine ex_tsw oq_X12_compares_1 rfl (fun c11 => ⟨rfl, ?_⟩) (fun i hi c11 => ?_)
  · show cw_X _ _ _ 96 _ _ _
    refine ex_ll oq_X12_compares_96 rfl ?_
    refine ex_ll oq_X12_compares_97 rfl ?_
    refine ex_lcmpV oq_X12_compares_98 (fun x12 hx12 => ?_)
    refine ex_if0 oq_X12_compares_99 (t := 106) rfl rfl (fun (c13 : x12.toInt ≤ 0) => ?_) (fun (c13 : ¬ (x12.toInt ≤ 0)) => ?_)
    · refine ex_ic oq_X12_compares_106 (m := 0) (by decide) (fun x14 hx14 => ?_)
      exact ex_retb oq_X12_compares_107 rfl (by omega) (by omega) (hQ x14 (by omega) (by rw [show k.toInt = 10 from by omega, zR_10]; exact congrArg some (by split <;> omega)))
    · refine ex_ic oq_X12_compares_102 (m := 1) (by decide) (fun x15 hx15 => ?_)
      refine ex_go oq_X12_compares_103 (t := 107) rfl rfl ?_
      exact ex_retb oq_X12_compares_107 rfl (by omega) (by omega) (hQ x15 (by omega) (by rw [show k.toInt = 10 from by omega, zR_10]; exact congrArg some (by split <;> omega)))
  · match i, hi, c11 with
    | 0, _, c11 =>
      refine ⟨rfl, ?_⟩
      show cw_X _ _ _ 36 _ _ _
      refine ex_ll oq_X12_compares_36 rfl ?_
      refine ex_ll oq_X12_compares_37 rfl ?_
      refine ex_lcmpV oq_X12_compares_38 (fun x16 hx16 => ?_)
      refine ex_if0 oq_X12_compares_39 (t := 46) rfl rfl (fun (c17 : 0 ≤ x16.toInt) => ?_) (fun (c17 : ¬ (0 ≤ x16.toInt)) => ?_)
      · refine ex_ic oq_X12_compares_46 (m := 0) (by decide) (fun x18 hx18 => ?_)
        exact ex_retb oq_X12_compares_47 rfl (by omega) (by omega) (hQ x18 (by omega) (by rw [show k.toInt = 5 from by omega, zR_5]; exact congrArg some (by split <;> omega)))
      · refine ex_ic oq_X12_compares_42 (m := 1) (by decide) (fun x19 hx19 => ?_)
        refine ex_go oq_X12_compares_43 (t := 47) rfl rfl ?_
        exact ex_retb oq_X12_compares_47 rfl (by omega) (by omega) (hQ x19 (by omega) (by rw [show k.toInt = 5 from by omega, zR_5]; exact congrArg some (by split <;> omega)))
    | 1, _, c11 =>
      refine ⟨rfl, ?_⟩
      show cw_X _ _ _ 48 _ _ _
      refine ex_ll oq_X12_compares_48 rfl ?_
      refine ex_ll oq_X12_compares_49 rfl ?_
      refine ex_lcmpV oq_X12_compares_50 (fun x20 hx20 => ?_)
      refine ex_if0 oq_X12_compares_51 (t := 58) rfl rfl (fun (c21 : 0 < x20.toInt) => ?_) (fun (c21 : ¬ (0 < x20.toInt)) => ?_)
      · refine ex_ic oq_X12_compares_58 (m := 0) (by decide) (fun x22 hx22 => ?_)
        exact ex_retb oq_X12_compares_59 rfl (by omega) (by omega) (hQ x22 (by omega) (by rw [show k.toInt = 6 from by omega, zR_6]; exact congrArg some (by split <;> omega)))
      · refine ex_ic oq_X12_compares_54 (m := 1) (by decide) (fun x23 hx23 => ?_)
        refine ex_go oq_X12_compares_55 (t := 59) rfl rfl ?_
        exact ex_retb oq_X12_compares_59 rfl (by omega) (by omega) (hQ x23 (by omega) (by rw [show k.toInt = 6 from by omega, zR_6]; exact congrArg some (by split <;> omega)))
    | 2, _, c11 =>
      refine ⟨rfl, ?_⟩
      show cw_X _ _ _ 60 _ _ _
      refine ex_ll oq_X12_compares_60 rfl ?_
      refine ex_ll oq_X12_compares_61 rfl ?_
      refine ex_lcmpV oq_X12_compares_62 (fun x24 hx24 => ?_)
      refine ex_if0 oq_X12_compares_63 (t := 70) rfl rfl (fun (c25 : ¬ x24.toInt = 0) => ?_) (fun (c25 : ¬ (¬ x24.toInt = 0)) => ?_)
      · refine ex_ic oq_X12_compares_70 (m := 0) (by decide) (fun x26 hx26 => ?_)
        exact ex_retb oq_X12_compares_71 rfl (by omega) (by omega) (hQ x26 (by omega) (by rw [show k.toInt = 7 from by omega, zR_7]; exact congrArg some (by split <;> omega)))
      · refine ex_ic oq_X12_compares_66 (m := 1) (by decide) (fun x27 hx27 => ?_)
        refine ex_go oq_X12_compares_67 (t := 71) rfl rfl ?_
        exact ex_retb oq_X12_compares_71 rfl (by omega) (by omega) (hQ x27 (by omega) (by rw [show k.toInt = 7 from by omega, zR_7]; exact congrArg some (by split <;> omega)))
    | 3, _, c11 =>
      refine ⟨rfl, ?_⟩
      show cw_X _ _ _ 72 _ _ _
      refine ex_ll oq_X12_compares_72 rfl ?_
      refine ex_ll oq_X12_compares_73 rfl ?_
      refine ex_lcmpV oq_X12_compares_74 (fun x28 hx28 => ?_)
      refine ex_if0 oq_X12_compares_75 (t := 82) rfl rfl (fun (c29 : x28.toInt = 0) => ?_) (fun (c29 : ¬ (x28.toInt = 0)) => ?_)
      · refine ex_ic oq_X12_compares_82 (m := 0) (by decide) (fun x30 hx30 => ?_)
        exact ex_retb oq_X12_compares_83 rfl (by omega) (by omega) (hQ x30 (by omega) (by rw [show k.toInt = 8 from by omega, zR_8]; exact congrArg some (by split <;> omega)))
      · refine ex_ic oq_X12_compares_78 (m := 1) (by decide) (fun x31 hx31 => ?_)
        refine ex_go oq_X12_compares_79 (t := 83) rfl rfl ?_
        exact ex_retb oq_X12_compares_83 rfl (by omega) (by omega) (hQ x31 (by omega) (by rw [show k.toInt = 8 from by omega, zR_8]; exact congrArg some (by split <;> omega)))
    | 4, _, c11 =>
      refine ⟨rfl, ?_⟩
      show cw_X _ _ _ 84 _ _ _
      refine ex_ll oq_X12_compares_84 rfl ?_
      refine ex_ll oq_X12_compares_85 rfl ?_
      refine ex_lcmpV oq_X12_compares_86 (fun x32 hx32 => ?_)
      refine ex_if0 oq_X12_compares_87 (t := 94) rfl rfl (fun (c33 : x32.toInt < 0) => ?_) (fun (c33 : ¬ (x32.toInt < 0)) => ?_)
      · refine ex_ic oq_X12_compares_94 (m := 0) (by decide) (fun x34 hx34 => ?_)
        exact ex_retb oq_X12_compares_95 rfl (by omega) (by omega) (hQ x34 (by omega) (by rw [show k.toInt = 9 from by omega, zR_9]; exact congrArg some (by split <;> omega)))
      · refine ex_ic oq_X12_compares_90 (m := 1) (by decide) (fun x35 hx35 => ?_)
        refine ex_go oq_X12_compares_91 (t := 95) rfl rfl ?_
        exact ex_retb oq_X12_compares_95 rfl (by omega) (by omega) (hQ x35 (by omega) (by rw [show k.toInt = 9 from by omega, zR_9]; exact congrArg some (by split <;> omega)))
    | i + 5, hi, _ => exact absurd hi (by show ¬ i + 5 < 5; omega)
set_option maxHeartbeats 8000000 in
theorem rl_valueOf (hT : cw_T G h) {k : Int32} {kn : Nat} (hk : k.toInt = kn) (hk64 : kn < 64) {q1 q2 q3 : Int} (r1 : ri_at h 125 kn = q1) (r2 : ri_at h 126 kn = q2) (r3 : ri_at h 127 kn = q3) (h1 : 0 ≤ q1 ∧ q1 ≤ 14) (h2 : q1 = 0 → 0 ≤ q2 ∧ q2 ≤ 9999) (h3 : q1 = 1 → 0 ≤ q2 ∧ q2 < 10) (h4 : 2 ≤ q1 → 0 ≤ q2 ∧ q2 < 64) (h5 : 3 ≤ q1 → 0 ≤ q3 ∧ q3 < 64) {N V : Nat → Int} (hN : ∀ j, j < 10 → rl_at h 132 j = N j) (hNb : ∀ j, zbb (N j)) (hV : ∀ j, j < 64 → rl_at h 133 j = V j) (hV1 : 2 ≤ q1 → zbb (V q2.toNat)) (hV2 : 3 ≤ q1 → zbb (V q3.toNat)) {e : Int} (he : ri_at h 111 48 = e) (h01 : e = 0 ∨ e = 1) (hQ : ∀ (y : Int64) h', cw_T G h' → zE8 h h' → zbb y.toInt → zvR (zvo N V q1 q2 q3) e y.toInt h' → Q (some (cv_l y), h')) : cw_X X 211 Q 0 (cv_ent 0 [cv_r 111, cv_i k]) [] h := by
  have hV1b : 2 ≤ q1 → -1000000000000 ≤ V q2.toNat ∧ V q2.toNat ≤ 1000000000000 := fun q => hV1 q
  have hV2b : 3 ≤ q1 → -1000000000000 ≤ V q3.toNat ∧ V q3.toNat ≤ 1000000000000 := fun q => hV2 q
  refine ex_al oq_X12_valueOf_0 rfl ?_
  refine ex_gf oq_X12_valueOf_1 hT (k := 111) (d := 12) rfl rfl (fr_knot hT) ?_
  refine ex_il oq_X12_valueOf_4 rfl ?_
  refine ex_ia1 oq_X12_valueOf_5 hT (k := 125) (d := 64) (j := kn) rfl rfl (by omega) (by omega) (fun x11 hx11 lx11 ux11 => ?_)
  have hx11 := (hx11.symm.trans r1 : x11.toInt = q1)
  refine ex_if0 oq_X12_valueOf_6 (t := 17) rfl rfl (fun (c12 : ¬ x11.toInt = 0) => ?_) (fun (c12 : ¬ (¬ x11.toInt = 0)) => ?_)
  · refine ex_al oq_X12_valueOf_17 rfl ?_
    refine ex_gf oq_X12_valueOf_18 hT (k := 111) (d := 12) rfl rfl (fr_knot hT) ?_
    refine ex_il oq_X12_valueOf_21 rfl ?_
    refine ex_ia1 oq_X12_valueOf_22 hT (k := 125) (d := 64) (j := kn) rfl rfl (by omega) (by omega) (fun x13 hx13 lx13 ux13 => ?_)
    have hx13 := (hx13.symm.trans r1 : x13.toInt = q1)
    refine ex_ic oq_X12_valueOf_23 (m := 1) (by decide) (fun x14 hx14 => ?_)
    refine ex_if oq_X12_valueOf_24 (t := 39) rfl rfl (fun (c15 : ¬ x13.toInt = x14.toInt) => ?_) (fun (c15 : ¬ (¬ x13.toInt = x14.toInt)) => ?_)
    · refine ex_al oq_X12_valueOf_39 rfl ?_
      refine ex_gf oq_X12_valueOf_40 hT (k := 111) (d := 12) rfl rfl (fr_value hT) ?_
      refine ex_al oq_X12_valueOf_43 rfl ?_
      refine ex_gf oq_X12_valueOf_44 hT (k := 111) (d := 12) rfl rfl (fr_part hT) ?_
      refine ex_il oq_X12_valueOf_47 rfl ?_
      refine ex_ia1 oq_X12_valueOf_48 hT (k := 126) (d := 65) (j := kn) rfl rfl (by omega) (by omega) (fun x16 hx16 lx16 ux16 => ?_)
      have hx16 := (hx16.symm.trans r2 : x16.toInt = q2)
      refine ex_laV oq_X12_valueOf_49 hT (k := 133) (d := 72) (j := q2.toNat) rfl rfl (by omega) (by omega) (fun x17 hx17 => ?_)
      replace hx17 : x17.toInt = V q2.toNat := hx17.symm.trans (hV _ (by omega))
      refine ex_lsA oq_X12_valueOf_50 (fun L18 gL18_2 kL18 => ?_)
      have gL18_0 : cv_get L18 0 = some (cv_r 111) := kL18 0 _ (by decide) (by decide) (fun q => absurd q (by decide)) rfl
      have gL18_1 : cv_get L18 1 = some (cv_i k) := kL18 1 _ (by decide) (by decide) (fun _ => rfl) rfl
      refine ex_al oq_X12_valueOf_51 gL18_0 ?_
      refine ex_gf oq_X12_valueOf_52 hT (k := 111) (d := 12) rfl rfl (fr_knot hT) ?_
      refine ex_il oq_X12_valueOf_55 gL18_1 ?_
      refine ex_ia1 oq_X12_valueOf_56 hT (k := 125) (d := 64) (j := kn) rfl rfl (by omega) (by omega) (fun x19 hx19 lx19 ux19 => ?_)
      have hx19 := (hx19.symm.trans r1 : x19.toInt = q1)
      refine ex_ic oq_X12_valueOf_57 (m := 2) (by decide) (fun x20 hx20 => ?_)
      refine ex_if oq_X12_valueOf_58 (t := 73) rfl rfl (fun (c21 : ¬ x19.toInt = x20.toInt) => ?_) (fun (c21 : ¬ (¬ x19.toInt = x20.toInt)) => ?_)
      · refine ex_al oq_X12_valueOf_73 gL18_0 ?_
        refine ex_gf oq_X12_valueOf_74 hT (k := 111) (d := 12) rfl rfl (fr_value hT) ?_
        refine ex_al oq_X12_valueOf_77 gL18_0 ?_
        refine ex_gf oq_X12_valueOf_78 hT (k := 111) (d := 12) rfl rfl (fr_other hT) ?_
        refine ex_il oq_X12_valueOf_81 gL18_1 ?_
        refine ex_ia1 oq_X12_valueOf_82 hT (k := 127) (d := 66) (j := kn) rfl rfl (by omega) (by omega) (fun x22 hx22 lx22 ux22 => ?_)
        have hx22 := (hx22.symm.trans r3 : x22.toInt = q3)
        refine ex_laV oq_X12_valueOf_83 hT (k := 133) (d := 72) (j := q3.toNat) rfl rfl (by omega) (by omega) (fun x23 hx23 => ?_)
        replace hx23 : x23.toInt = V q3.toNat := hx23.symm.trans (hV _ (by omega))
        refine ex_lswA oq_X12_valueOf_84 (fun L24 gL24_4 kL24 => ?_)
        have gL24_2 : cv_get L24 2 = some (cv_l x17) := kL24 2 _ (by decide) (by decide) (fun q => absurd q (by decide)) gL18_2
        have gL24_0 : cv_get L24 0 = some (cv_r 111) := kL24 0 _ (by decide) (by decide) (fun q => absurd q (by decide)) gL18_0
        have gL24_1 : cv_get L24 1 = some (cv_i k) := kL24 1 _ (by decide) (by decide) (fun q => absurd q (by decide)) gL18_1
        refine ex_al oq_X12_valueOf_86 gL24_0 ?_
        refine ex_gf oq_X12_valueOf_87 hT (k := 111) (d := 12) rfl rfl (fr_knot hT) ?_
        refine ex_il oq_X12_valueOf_90 gL24_1 ?_
        refine ex_ia1 oq_X12_valueOf_91 hT (k := 125) (d := 64) (j := kn) rfl rfl (by omega) (by omega) (fun x25 hx25 lx25 ux25 => ?_)
        have hx25 := (hx25.symm.trans r1 : x25.toInt = q1)
        refine ex_tsw oq_X12_valueOf_92 rfl (fun c26 => ⟨rfl, ?_⟩) (fun i hi c26 => ?_)
        · show cw_X _ _ _ 259 _ _ _
          refine ex_al oq_X12_valueOf_259 gL24_0 ?_
          refine ex_gf oq_X12_valueOf_260 hT (k := 111) (d := 12) rfl rfl (fr_knot hT) ?_
          refine ex_il oq_X12_valueOf_263 gL24_1 ?_
          refine ex_ia1 oq_X12_valueOf_264 hT (k := 125) (d := 64) (j := kn) rfl rfl (by omega) (by omega) (fun x27 hx27 lx27 ux27 => ?_)
          have hx27 := (hx27.symm.trans r1 : x27.toInt = q1)
          refine ex_ll oq_X12_valueOf_265 gL24_2 ?_
          refine ex_llw oq_X12_valueOf_266 gL24_4 ?_
          refine ex_cs oq_X12_valueOf_268 (by decide) (as := [cv_i x27, cv_l x17, cv_l x23]) (stk := []) rfl rfl rfl ⟨rfl, rfl⟩ (R := fun o => ∃ x : Int32, o = (some (cv_i x), h) ∧ (0 ≤ x.toInt ∧ x.toInt ≤ 1) ∧ zjn x27.toInt x17.toInt x23.toInt = some x.toInt) (rl_compares (by omega) (fun x q q2 => ⟨x, rfl, q, q2⟩)) (fun o ho => ?_)
          obtain ⟨x28, rfl, bx28, zx28⟩ := ho
          show cw_X _ _ _ _ _ [cv_i x28] h
          rw [show x27.toInt = q1 from by omega, show x17.toInt = V q2.toNat from by omega, show x23.toInt = V q3.toNat from by omega] at zx28
          refine ex_if0 oq_X12_valueOf_271 (t := 278) rfl rfl (fun (c29 : x28.toInt = 0) => ?_) (fun (c29 : ¬ (x28.toInt = 0)) => ?_)
          · refine ex_lc oq_X12_valueOf_278 (m := 0) (by decide) (fun x30 hx30 => ?_)
            have hz : zvo N V q1 q2 q3 = some x30.toInt := by rw [zvo_J (by omega)]; rw [zx28]; exact congrArg some (by omega)
            exact ex_retl oq_X12_valueOf_279 rfl (hQ x30 h hT zE8_0 (zvo_b hNb (fun q => by unfold zbb; omega) (fun q => hV1 (by omega)) hz (by omega)) (zvR_i hz h01 he))
          · refine ex_lc oq_X12_valueOf_274 (m := 1) (by decide) (fun x31 hx31 => ?_)
            refine ex_go oq_X12_valueOf_275 (t := 279) rfl rfl ?_
            have hz : zvo N V q1 q2 q3 = some x31.toInt := by rw [zvo_J (by omega)]; rw [zx28]; exact congrArg some (by omega)
            exact ex_retl oq_X12_valueOf_279 rfl (hQ x31 h hT zE8_0 (zvo_b hNb (fun q => by unfold zbb; omega) (fun q => hV1 (by omega)) hz (by omega)) (zvR_i hz h01 he))
        · match i, hi, c26 with
          | 0, _, c26 =>
            refine ⟨rfl, ?_⟩
            show cw_X _ _ _ 156 _ _ _
            refine ex_ll oq_X12_valueOf_156 gL24_2 ?_
            refine ex_lc oq_X12_valueOf_157 (m := 0) (by decide) (fun x32 hx32 => ?_)
            refine ex_lcmpV oq_X12_valueOf_158 (fun x33 hx33 => ?_)
            refine ex_if0 oq_X12_valueOf_159 (t := 173) rfl rfl (fun (c34 : x33.toInt = 0) => ?_) (fun (c34 : ¬ (x33.toInt = 0)) => ?_)
            · refine ex_lc oq_X12_valueOf_173 (m := 0) (by decide) (fun x35 hx35 => ?_)
              have hz : zvo N V q1 q2 q3 = some x35.toInt := by rw [zvo_J (by omega), show q1 = 3 from by omega]; show zjn 3 _ _ = _; rw [zR_3]; exact congrArg some (by split <;> omega)
              exact ex_retl oq_X12_valueOf_174 rfl (hQ x35 h hT zE8_0 (zvo_b hNb (fun q => by unfold zbb; omega) (fun q => hV1 (by omega)) hz (by omega)) (zvR_i hz h01 he))
            · refine ex_llw oq_X12_valueOf_162 gL24_4 ?_
              refine ex_lc oq_X12_valueOf_164 (m := 0) (by decide) (fun x36 hx36 => ?_)
              refine ex_lcmpV oq_X12_valueOf_165 (fun x37 hx37 => ?_)
              refine ex_if0 oq_X12_valueOf_166 (t := 173) rfl rfl (fun (c38 : x37.toInt = 0) => ?_) (fun (c38 : ¬ (x37.toInt = 0)) => ?_)
              · refine ex_lc oq_X12_valueOf_173 (m := 0) (by decide) (fun x39 hx39 => ?_)
                have hz : zvo N V q1 q2 q3 = some x39.toInt := by rw [zvo_J (by omega), show q1 = 3 from by omega]; show zjn 3 _ _ = _; rw [zR_3]; exact congrArg some (by split <;> omega)
                exact ex_retl oq_X12_valueOf_174 rfl (hQ x39 h hT zE8_0 (zvo_b hNb (fun q => by unfold zbb; omega) (fun q => hV1 (by omega)) hz (by omega)) (zvR_i hz h01 he))
              · refine ex_lc oq_X12_valueOf_169 (m := 1) (by decide) (fun x40 hx40 => ?_)
                refine ex_go oq_X12_valueOf_170 (t := 174) rfl rfl ?_
                have hz : zvo N V q1 q2 q3 = some x40.toInt := by rw [zvo_J (by omega), show q1 = 3 from by omega]; show zjn 3 _ _ = _; rw [zR_3]; exact congrArg some (by split <;> omega)
                exact ex_retl oq_X12_valueOf_174 rfl (hQ x40 h hT zE8_0 (zvo_b hNb (fun q => by unfold zbb; omega) (fun q => hV1 (by omega)) hz (by omega)) (zvR_i hz h01 he))
          | 1, _, c26 =>
            refine ⟨rfl, ?_⟩
            show cw_X _ _ _ 175 _ _ _
            refine ex_ll oq_X12_valueOf_175 gL24_2 ?_
            refine ex_lc oq_X12_valueOf_176 (m := 0) (by decide) (fun x41 hx41 => ?_)
            refine ex_lcmpV oq_X12_valueOf_177 (fun x42 hx42 => ?_)
            refine ex_if0 oq_X12_valueOf_178 (t := 188) rfl rfl (fun (c43 : ¬ x42.toInt = 0) => ?_) (fun (c43 : ¬ (¬ x42.toInt = 0)) => ?_)
            · refine ex_lc oq_X12_valueOf_188 (m := 1) (by decide) (fun x44 hx44 => ?_)
              refine ex_go oq_X12_valueOf_189 (t := 193) rfl rfl ?_
              have hz : zvo N V q1 q2 q3 = some x44.toInt := by rw [zvo_J (by omega), show q1 = 4 from by omega]; show zjn 4 _ _ = _; rw [zR_4]; exact congrArg some (by split <;> omega)
              exact ex_retl oq_X12_valueOf_193 rfl (hQ x44 h hT zE8_0 (zvo_b hNb (fun q => by unfold zbb; omega) (fun q => hV1 (by omega)) hz (by omega)) (zvR_i hz h01 he))
            · refine ex_llw oq_X12_valueOf_181 gL24_4 ?_
              refine ex_lc oq_X12_valueOf_183 (m := 0) (by decide) (fun x45 hx45 => ?_)
              refine ex_lcmpV oq_X12_valueOf_184 (fun x46 hx46 => ?_)
              refine ex_if0 oq_X12_valueOf_185 (t := 192) rfl rfl (fun (c47 : x46.toInt = 0) => ?_) (fun (c47 : ¬ (x46.toInt = 0)) => ?_)
              · refine ex_lc oq_X12_valueOf_192 (m := 0) (by decide) (fun x48 hx48 => ?_)
                have hz : zvo N V q1 q2 q3 = some x48.toInt := by rw [zvo_J (by omega), show q1 = 4 from by omega]; show zjn 4 _ _ = _; rw [zR_4]; exact congrArg some (by split <;> omega)
                exact ex_retl oq_X12_valueOf_193 rfl (hQ x48 h hT zE8_0 (zvo_b hNb (fun q => by unfold zbb; omega) (fun q => hV1 (by omega)) hz (by omega)) (zvR_i hz h01 he))
              · refine ex_lc oq_X12_valueOf_188 (m := 1) (by decide) (fun x49 hx49 => ?_)
                refine ex_go oq_X12_valueOf_189 (t := 193) rfl rfl ?_
                have hz : zvo N V q1 q2 q3 = some x49.toInt := by rw [zvo_J (by omega), show q1 = 4 from by omega]; show zjn 4 _ _ = _; rw [zR_4]; exact congrArg some (by split <;> omega)
                exact ex_retl oq_X12_valueOf_193 rfl (hQ x49 h hT zE8_0 (zvo_b hNb (fun q => by unfold zbb; omega) (fun q => hV1 (by omega)) hz (by omega)) (zvR_i hz h01 he))
          | 2, _, c26 =>
            refine ⟨rfl, ?_⟩
            show cw_X _ _ _ 259 _ _ _
            refine ex_al oq_X12_valueOf_259 gL24_0 ?_
            refine ex_gf oq_X12_valueOf_260 hT (k := 111) (d := 12) rfl rfl (fr_knot hT) ?_
            refine ex_il oq_X12_valueOf_263 gL24_1 ?_
            refine ex_ia1 oq_X12_valueOf_264 hT (k := 125) (d := 64) (j := kn) rfl rfl (by omega) (by omega) (fun x50 hx50 lx50 ux50 => ?_)
            have hx50 := (hx50.symm.trans r1 : x50.toInt = q1)
            refine ex_ll oq_X12_valueOf_265 gL24_2 ?_
            refine ex_llw oq_X12_valueOf_266 gL24_4 ?_
            refine ex_cs oq_X12_valueOf_268 (by decide) (as := [cv_i x50, cv_l x17, cv_l x23]) (stk := []) rfl rfl rfl ⟨rfl, rfl⟩ (R := fun o => ∃ x : Int32, o = (some (cv_i x), h) ∧ (0 ≤ x.toInt ∧ x.toInt ≤ 1) ∧ zjn x50.toInt x17.toInt x23.toInt = some x.toInt) (rl_compares (by omega) (fun x q q2 => ⟨x, rfl, q, q2⟩)) (fun o ho => ?_)
            obtain ⟨x51, rfl, bx51, zx51⟩ := ho
            show cw_X _ _ _ _ _ [cv_i x51] h
            rw [show x50.toInt = q1 from by omega, show x17.toInt = V q2.toNat from by omega, show x23.toInt = V q3.toNat from by omega] at zx51
            refine ex_if0 oq_X12_valueOf_271 (t := 278) rfl rfl (fun (c52 : x51.toInt = 0) => ?_) (fun (c52 : ¬ (x51.toInt = 0)) => ?_)
            · refine ex_lc oq_X12_valueOf_278 (m := 0) (by decide) (fun x53 hx53 => ?_)
              have hz : zvo N V q1 q2 q3 = some x53.toInt := by rw [zvo_J (by omega)]; rw [zx51]; exact congrArg some (by omega)
              exact ex_retl oq_X12_valueOf_279 rfl (hQ x53 h hT zE8_0 (zvo_b hNb (fun q => by unfold zbb; omega) (fun q => hV1 (by omega)) hz (by omega)) (zvR_i hz h01 he))
            · refine ex_lc oq_X12_valueOf_274 (m := 1) (by decide) (fun x54 hx54 => ?_)
              refine ex_go oq_X12_valueOf_275 (t := 279) rfl rfl ?_
              have hz : zvo N V q1 q2 q3 = some x54.toInt := by rw [zvo_J (by omega)]; rw [zx51]; exact congrArg some (by omega)
              exact ex_retl oq_X12_valueOf_279 rfl (hQ x54 h hT zE8_0 (zvo_b hNb (fun q => by unfold zbb; omega) (fun q => hV1 (by omega)) hz (by omega)) (zvR_i hz h01 he))
          | 3, _, c26 =>
            refine ⟨rfl, ?_⟩
            show cw_X _ _ _ 259 _ _ _
            refine ex_al oq_X12_valueOf_259 gL24_0 ?_
            refine ex_gf oq_X12_valueOf_260 hT (k := 111) (d := 12) rfl rfl (fr_knot hT) ?_
            refine ex_il oq_X12_valueOf_263 gL24_1 ?_
            refine ex_ia1 oq_X12_valueOf_264 hT (k := 125) (d := 64) (j := kn) rfl rfl (by omega) (by omega) (fun x55 hx55 lx55 ux55 => ?_)
            have hx55 := (hx55.symm.trans r1 : x55.toInt = q1)
            refine ex_ll oq_X12_valueOf_265 gL24_2 ?_
            refine ex_llw oq_X12_valueOf_266 gL24_4 ?_
            refine ex_cs oq_X12_valueOf_268 (by decide) (as := [cv_i x55, cv_l x17, cv_l x23]) (stk := []) rfl rfl rfl ⟨rfl, rfl⟩ (R := fun o => ∃ x : Int32, o = (some (cv_i x), h) ∧ (0 ≤ x.toInt ∧ x.toInt ≤ 1) ∧ zjn x55.toInt x17.toInt x23.toInt = some x.toInt) (rl_compares (by omega) (fun x q q2 => ⟨x, rfl, q, q2⟩)) (fun o ho => ?_)
            obtain ⟨x56, rfl, bx56, zx56⟩ := ho
            show cw_X _ _ _ _ _ [cv_i x56] h
            rw [show x55.toInt = q1 from by omega, show x17.toInt = V q2.toNat from by omega, show x23.toInt = V q3.toNat from by omega] at zx56
            refine ex_if0 oq_X12_valueOf_271 (t := 278) rfl rfl (fun (c57 : x56.toInt = 0) => ?_) (fun (c57 : ¬ (x56.toInt = 0)) => ?_)
            · refine ex_lc oq_X12_valueOf_278 (m := 0) (by decide) (fun x58 hx58 => ?_)
              have hz : zvo N V q1 q2 q3 = some x58.toInt := by rw [zvo_J (by omega)]; rw [zx56]; exact congrArg some (by omega)
              exact ex_retl oq_X12_valueOf_279 rfl (hQ x58 h hT zE8_0 (zvo_b hNb (fun q => by unfold zbb; omega) (fun q => hV1 (by omega)) hz (by omega)) (zvR_i hz h01 he))
            · refine ex_lc oq_X12_valueOf_274 (m := 1) (by decide) (fun x59 hx59 => ?_)
              refine ex_go oq_X12_valueOf_275 (t := 279) rfl rfl ?_
              have hz : zvo N V q1 q2 q3 = some x59.toInt := by rw [zvo_J (by omega)]; rw [zx56]; exact congrArg some (by omega)
              exact ex_retl oq_X12_valueOf_279 rfl (hQ x59 h hT zE8_0 (zvo_b hNb (fun q => by unfold zbb; omega) (fun q => hV1 (by omega)) hz (by omega)) (zvR_i hz h01 he))
          | 4, _, c26 =>
            refine ⟨rfl, ?_⟩
            show cw_X _ _ _ 259 _ _ _
            refine ex_al oq_X12_valueOf_259 gL24_0 ?_
            refine ex_gf oq_X12_valueOf_260 hT (k := 111) (d := 12) rfl rfl (fr_knot hT) ?_
            refine ex_il oq_X12_valueOf_263 gL24_1 ?_
            refine ex_ia1 oq_X12_valueOf_264 hT (k := 125) (d := 64) (j := kn) rfl rfl (by omega) (by omega) (fun x60 hx60 lx60 ux60 => ?_)
            have hx60 := (hx60.symm.trans r1 : x60.toInt = q1)
            refine ex_ll oq_X12_valueOf_265 gL24_2 ?_
            refine ex_llw oq_X12_valueOf_266 gL24_4 ?_
            refine ex_cs oq_X12_valueOf_268 (by decide) (as := [cv_i x60, cv_l x17, cv_l x23]) (stk := []) rfl rfl rfl ⟨rfl, rfl⟩ (R := fun o => ∃ x : Int32, o = (some (cv_i x), h) ∧ (0 ≤ x.toInt ∧ x.toInt ≤ 1) ∧ zjn x60.toInt x17.toInt x23.toInt = some x.toInt) (rl_compares (by omega) (fun x q q2 => ⟨x, rfl, q, q2⟩)) (fun o ho => ?_)
            obtain ⟨x61, rfl, bx61, zx61⟩ := ho
            show cw_X _ _ _ _ _ [cv_i x61] h
            rw [show x60.toInt = q1 from by omega, show x17.toInt = V q2.toNat from by omega, show x23.toInt = V q3.toNat from by omega] at zx61
            refine ex_if0 oq_X12_valueOf_271 (t := 278) rfl rfl (fun (c62 : x61.toInt = 0) => ?_) (fun (c62 : ¬ (x61.toInt = 0)) => ?_)
            · refine ex_lc oq_X12_valueOf_278 (m := 0) (by decide) (fun x63 hx63 => ?_)
              have hz : zvo N V q1 q2 q3 = some x63.toInt := by rw [zvo_J (by omega)]; rw [zx61]; exact congrArg some (by omega)
              exact ex_retl oq_X12_valueOf_279 rfl (hQ x63 h hT zE8_0 (zvo_b hNb (fun q => by unfold zbb; omega) (fun q => hV1 (by omega)) hz (by omega)) (zvR_i hz h01 he))
            · refine ex_lc oq_X12_valueOf_274 (m := 1) (by decide) (fun x64 hx64 => ?_)
              refine ex_go oq_X12_valueOf_275 (t := 279) rfl rfl ?_
              have hz : zvo N V q1 q2 q3 = some x64.toInt := by rw [zvo_J (by omega)]; rw [zx61]; exact congrArg some (by omega)
              exact ex_retl oq_X12_valueOf_279 rfl (hQ x64 h hT zE8_0 (zvo_b hNb (fun q => by unfold zbb; omega) (fun q => hV1 (by omega)) hz (by omega)) (zvR_i hz h01 he))
          | 5, _, c26 =>
            refine ⟨rfl, ?_⟩
            show cw_X _ _ _ 259 _ _ _
            refine ex_al oq_X12_valueOf_259 gL24_0 ?_
            refine ex_gf oq_X12_valueOf_260 hT (k := 111) (d := 12) rfl rfl (fr_knot hT) ?_
            refine ex_il oq_X12_valueOf_263 gL24_1 ?_
            refine ex_ia1 oq_X12_valueOf_264 hT (k := 125) (d := 64) (j := kn) rfl rfl (by omega) (by omega) (fun x65 hx65 lx65 ux65 => ?_)
            have hx65 := (hx65.symm.trans r1 : x65.toInt = q1)
            refine ex_ll oq_X12_valueOf_265 gL24_2 ?_
            refine ex_llw oq_X12_valueOf_266 gL24_4 ?_
            refine ex_cs oq_X12_valueOf_268 (by decide) (as := [cv_i x65, cv_l x17, cv_l x23]) (stk := []) rfl rfl rfl ⟨rfl, rfl⟩ (R := fun o => ∃ x : Int32, o = (some (cv_i x), h) ∧ (0 ≤ x.toInt ∧ x.toInt ≤ 1) ∧ zjn x65.toInt x17.toInt x23.toInt = some x.toInt) (rl_compares (by omega) (fun x q q2 => ⟨x, rfl, q, q2⟩)) (fun o ho => ?_)
            obtain ⟨x66, rfl, bx66, zx66⟩ := ho
            show cw_X _ _ _ _ _ [cv_i x66] h
            rw [show x65.toInt = q1 from by omega, show x17.toInt = V q2.toNat from by omega, show x23.toInt = V q3.toNat from by omega] at zx66
            refine ex_if0 oq_X12_valueOf_271 (t := 278) rfl rfl (fun (c67 : x66.toInt = 0) => ?_) (fun (c67 : ¬ (x66.toInt = 0)) => ?_)
            · refine ex_lc oq_X12_valueOf_278 (m := 0) (by decide) (fun x68 hx68 => ?_)
              have hz : zvo N V q1 q2 q3 = some x68.toInt := by rw [zvo_J (by omega)]; rw [zx66]; exact congrArg some (by omega)
              exact ex_retl oq_X12_valueOf_279 rfl (hQ x68 h hT zE8_0 (zvo_b hNb (fun q => by unfold zbb; omega) (fun q => hV1 (by omega)) hz (by omega)) (zvR_i hz h01 he))
            · refine ex_lc oq_X12_valueOf_274 (m := 1) (by decide) (fun x69 hx69 => ?_)
              refine ex_go oq_X12_valueOf_275 (t := 279) rfl rfl ?_
              have hz : zvo N V q1 q2 q3 = some x69.toInt := by rw [zvo_J (by omega)]; rw [zx66]; exact congrArg some (by omega)
              exact ex_retl oq_X12_valueOf_279 rfl (hQ x69 h hT zE8_0 (zvo_b hNb (fun q => by unfold zbb; omega) (fun q => hV1 (by omega)) hz (by omega)) (zvR_i hz h01 he))
          | 6, _, c26 =>
            refine ⟨rfl, ?_⟩
            show cw_X _ _ _ 259 _ _ _
            refine ex_al oq_X12_valueOf_259 gL24_0 ?_
            refine ex_gf oq_X12_valueOf_260 hT (k := 111) (d := 12) rfl rfl (fr_knot hT) ?_
            refine ex_il oq_X12_valueOf_263 gL24_1 ?_
            refine ex_ia1 oq_X12_valueOf_264 hT (k := 125) (d := 64) (j := kn) rfl rfl (by omega) (by omega) (fun x70 hx70 lx70 ux70 => ?_)
            have hx70 := (hx70.symm.trans r1 : x70.toInt = q1)
            refine ex_ll oq_X12_valueOf_265 gL24_2 ?_
            refine ex_llw oq_X12_valueOf_266 gL24_4 ?_
            refine ex_cs oq_X12_valueOf_268 (by decide) (as := [cv_i x70, cv_l x17, cv_l x23]) (stk := []) rfl rfl rfl ⟨rfl, rfl⟩ (R := fun o => ∃ x : Int32, o = (some (cv_i x), h) ∧ (0 ≤ x.toInt ∧ x.toInt ≤ 1) ∧ zjn x70.toInt x17.toInt x23.toInt = some x.toInt) (rl_compares (by omega) (fun x q q2 => ⟨x, rfl, q, q2⟩)) (fun o ho => ?_)
            obtain ⟨x71, rfl, bx71, zx71⟩ := ho
            show cw_X _ _ _ _ _ [cv_i x71] h
            rw [show x70.toInt = q1 from by omega, show x17.toInt = V q2.toNat from by omega, show x23.toInt = V q3.toNat from by omega] at zx71
            refine ex_if0 oq_X12_valueOf_271 (t := 278) rfl rfl (fun (c72 : x71.toInt = 0) => ?_) (fun (c72 : ¬ (x71.toInt = 0)) => ?_)
            · refine ex_lc oq_X12_valueOf_278 (m := 0) (by decide) (fun x73 hx73 => ?_)
              have hz : zvo N V q1 q2 q3 = some x73.toInt := by rw [zvo_J (by omega)]; rw [zx71]; exact congrArg some (by omega)
              exact ex_retl oq_X12_valueOf_279 rfl (hQ x73 h hT zE8_0 (zvo_b hNb (fun q => by unfold zbb; omega) (fun q => hV1 (by omega)) hz (by omega)) (zvR_i hz h01 he))
            · refine ex_lc oq_X12_valueOf_274 (m := 1) (by decide) (fun x74 hx74 => ?_)
              refine ex_go oq_X12_valueOf_275 (t := 279) rfl rfl ?_
              have hz : zvo N V q1 q2 q3 = some x74.toInt := by rw [zvo_J (by omega)]; rw [zx71]; exact congrArg some (by omega)
              exact ex_retl oq_X12_valueOf_279 rfl (hQ x74 h hT zE8_0 (zvo_b hNb (fun q => by unfold zbb; omega) (fun q => hV1 (by omega)) hz (by omega)) (zvR_i hz h01 he))
          | 7, _, c26 =>
            refine ⟨rfl, ?_⟩
            show cw_X _ _ _ 259 _ _ _
            refine ex_al oq_X12_valueOf_259 gL24_0 ?_
            refine ex_gf oq_X12_valueOf_260 hT (k := 111) (d := 12) rfl rfl (fr_knot hT) ?_
            refine ex_il oq_X12_valueOf_263 gL24_1 ?_
            refine ex_ia1 oq_X12_valueOf_264 hT (k := 125) (d := 64) (j := kn) rfl rfl (by omega) (by omega) (fun x75 hx75 lx75 ux75 => ?_)
            have hx75 := (hx75.symm.trans r1 : x75.toInt = q1)
            refine ex_ll oq_X12_valueOf_265 gL24_2 ?_
            refine ex_llw oq_X12_valueOf_266 gL24_4 ?_
            refine ex_cs oq_X12_valueOf_268 (by decide) (as := [cv_i x75, cv_l x17, cv_l x23]) (stk := []) rfl rfl rfl ⟨rfl, rfl⟩ (R := fun o => ∃ x : Int32, o = (some (cv_i x), h) ∧ (0 ≤ x.toInt ∧ x.toInt ≤ 1) ∧ zjn x75.toInt x17.toInt x23.toInt = some x.toInt) (rl_compares (by omega) (fun x q q2 => ⟨x, rfl, q, q2⟩)) (fun o ho => ?_)
            obtain ⟨x76, rfl, bx76, zx76⟩ := ho
            show cw_X _ _ _ _ _ [cv_i x76] h
            rw [show x75.toInt = q1 from by omega, show x17.toInt = V q2.toNat from by omega, show x23.toInt = V q3.toNat from by omega] at zx76
            refine ex_if0 oq_X12_valueOf_271 (t := 278) rfl rfl (fun (c77 : x76.toInt = 0) => ?_) (fun (c77 : ¬ (x76.toInt = 0)) => ?_)
            · refine ex_lc oq_X12_valueOf_278 (m := 0) (by decide) (fun x78 hx78 => ?_)
              have hz : zvo N V q1 q2 q3 = some x78.toInt := by rw [zvo_J (by omega)]; rw [zx76]; exact congrArg some (by omega)
              exact ex_retl oq_X12_valueOf_279 rfl (hQ x78 h hT zE8_0 (zvo_b hNb (fun q => by unfold zbb; omega) (fun q => hV1 (by omega)) hz (by omega)) (zvR_i hz h01 he))
            · refine ex_lc oq_X12_valueOf_274 (m := 1) (by decide) (fun x79 hx79 => ?_)
              refine ex_go oq_X12_valueOf_275 (t := 279) rfl rfl ?_
              have hz : zvo N V q1 q2 q3 = some x79.toInt := by rw [zvo_J (by omega)]; rw [zx76]; exact congrArg some (by omega)
              exact ex_retl oq_X12_valueOf_279 rfl (hQ x79 h hT zE8_0 (zvo_b hNb (fun q => by unfold zbb; omega) (fun q => hV1 (by omega)) hz (by omega)) (zvR_i hz h01 he))
          | 8, _, c26 =>
            refine ⟨rfl, ?_⟩
            show cw_X _ _ _ 194 _ _ _
            refine ex_al oq_X12_valueOf_194 gL24_0 ?_
            refine ex_ll oq_X12_valueOf_195 gL24_2 ?_
            refine ex_llw oq_X12_valueOf_196 gL24_4 ?_
            refine ex_laddV oq_X12_valueOf_198 (by omega) (fun x80 hx80 => ?_)
            refine ex_cv oq_X12_valueOf_199 (by decide) hT (k := 111) (d := 12) (as := [cv_l x80]) (stk := []) rfl rfl rfl rfl rfl rfl ⟨rfl, rfl⟩ (R := fun o => ∃ (y : Int64) (x : Int32) (hb : cv_H), o = (some (cv_l y), hb) ∧ cw_T G hb ∧ cw_Wr h hb 111 48 (cv_i x) ∧ ((x.toInt = 0 ∧ e = 0 ∧ zB12 (V q2.toNat + V q3.toNat) = some y.toInt) ∨ (x.toInt = 1 ∧ (e = 1 ∨ zB12 (V q2.toNat + V q3.toNat) = none) ∧ y.toInt = 0))) (rl_bounded hT he h01 (fun y {x} hb b1 b2 b3 => ⟨y, x, hb, rfl, b1, b2, by rw [show x80.toInt = (V q2.toNat + V q3.toNat) from by omega] at b3; exact b3⟩)) (fun o ho => ?_)
            obtain ⟨yx81, xx81, h82, rfl, Th82, wh82, dx81⟩ := ho
            show cw_X _ _ _ _ _ [cv_l yx81] h82
            refine ex_retl oq_X12_valueOf_202 rfl (hQ yx81 h82 Th82 (zE8_w wh82) ?_ ?_)
            · rcases dx81 with ⟨d1, d2, d3⟩ | ⟨d1, d2, d3⟩
              · exact (zB12_b d3).1
              · exact zbb_0 d3
            · rcases dx81 with ⟨d1, d2, d3⟩ | ⟨d1, d2, d3⟩
              · exact .inl ⟨d2, (ri_self wh82).trans d1, by rw [zvo_J (by omega), show q1 = 11 from by omega]; show zjn 11 _ _ = _; rw [zR_11]; exact d3⟩
              · exact .inr ⟨(ri_self wh82).trans d1, d2.imp id (fun q => by rw [zvo_J (by omega), show q1 = 11 from by omega]; show zjn 11 _ _ = _; rw [zR_11]; exact q)⟩
          | 9, _, c26 =>
            refine ⟨rfl, ?_⟩
            show cw_X _ _ _ 203 _ _ _
            refine ex_al oq_X12_valueOf_203 gL24_0 ?_
            refine ex_ll oq_X12_valueOf_204 gL24_2 ?_
            refine ex_llw oq_X12_valueOf_205 gL24_4 ?_
            refine ex_lsubV oq_X12_valueOf_207 (by omega) (fun x83 hx83 => ?_)
            refine ex_cv oq_X12_valueOf_208 (by decide) hT (k := 111) (d := 12) (as := [cv_l x83]) (stk := []) rfl rfl rfl rfl rfl rfl ⟨rfl, rfl⟩ (R := fun o => ∃ (y : Int64) (x : Int32) (hb : cv_H), o = (some (cv_l y), hb) ∧ cw_T G hb ∧ cw_Wr h hb 111 48 (cv_i x) ∧ ((x.toInt = 0 ∧ e = 0 ∧ zB12 (V q2.toNat - V q3.toNat) = some y.toInt) ∨ (x.toInt = 1 ∧ (e = 1 ∨ zB12 (V q2.toNat - V q3.toNat) = none) ∧ y.toInt = 0))) (rl_bounded hT he h01 (fun y {x} hb b1 b2 b3 => ⟨y, x, hb, rfl, b1, b2, by rw [show x83.toInt = (V q2.toNat - V q3.toNat) from by omega] at b3; exact b3⟩)) (fun o ho => ?_)
            obtain ⟨yx84, xx84, h85, rfl, Th85, wh85, dx84⟩ := ho
            show cw_X _ _ _ _ _ [cv_l yx84] h85
            refine ex_retl oq_X12_valueOf_211 rfl (hQ yx84 h85 Th85 (zE8_w wh85) ?_ ?_)
            · rcases dx84 with ⟨d1, d2, d3⟩ | ⟨d1, d2, d3⟩
              · exact (zB12_b d3).1
              · exact zbb_0 d3
            · rcases dx84 with ⟨d1, d2, d3⟩ | ⟨d1, d2, d3⟩
              · exact .inl ⟨d2, (ri_self wh85).trans d1, by rw [zvo_J (by omega), show q1 = 12 from by omega]; show zjn 12 _ _ = _; rw [zR_12]; exact d3⟩
              · exact .inr ⟨(ri_self wh85).trans d1, d2.imp id (fun q => by rw [zvo_J (by omega), show q1 = 12 from by omega]; show zjn 12 _ _ = _; rw [zR_12]; exact q)⟩
          | 10, _, c26 =>
            refine ⟨rfl, ?_⟩
            show cw_X _ _ _ 212 _ _ _
            refine ex_al oq_X12_valueOf_212 gL24_0 ?_
            refine ex_ll oq_X12_valueOf_213 gL24_2 ?_
            refine ex_llw oq_X12_valueOf_214 gL24_4 ?_
            refine ex_cv oq_X12_valueOf_216 (by decide) hT (k := 111) (d := 12) (as := [cv_l x17, cv_l x23]) (stk := []) rfl rfl rfl rfl rfl rfl ⟨rfl, rfl⟩ (R := fun o => ∃ (y : Int64) (x : Int32) (hb : cv_H), o = (some (cv_l y), hb) ∧ cw_T G hb ∧ cw_Wr h hb 111 48 (cv_i x) ∧ ((x.toInt = 0 ∧ e = 0 ∧ zB12 (V q2.toNat * V q3.toNat) = some y.toInt) ∨ (x.toInt = 1 ∧ (e = 1 ∨ zB12 (V q2.toNat * V q3.toNat) = none) ∧ y.toInt = 0))) (rl_times hT (by rw [show x17.toInt = V q2.toNat from by omega]; exact hV1 (by omega)) (by rw [show x23.toInt = V q3.toNat from by omega]; exact hV2 (by omega)) he h01 (fun y {x} hb b1 b2 b3 => ⟨y, x, hb, rfl, b1, b2, by rw [show x17.toInt = V q2.toNat from by omega, show x23.toInt = V q3.toNat from by omega] at b3; exact b3⟩)) (fun o ho => ?_)
            obtain ⟨yx86, xx86, h87, rfl, Th87, wh87, dx86⟩ := ho
            show cw_X _ _ _ _ _ [cv_l yx86] h87
            refine ex_retl oq_X12_valueOf_219 rfl (hQ yx86 h87 Th87 (zE8_w wh87) ?_ ?_)
            · rcases dx86 with ⟨d1, d2, d3⟩ | ⟨d1, d2, d3⟩
              · exact (zB12_b d3).1
              · exact zbb_0 d3
            · rcases dx86 with ⟨d1, d2, d3⟩ | ⟨d1, d2, d3⟩
              · exact .inl ⟨d2, (ri_self wh87).trans d1, by rw [zvo_J (by omega), show q1 = 13 from by omega]; show zjn 13 _ _ = _; rw [zR_13]; exact d3⟩
              · exact .inr ⟨(ri_self wh87).trans d1, d2.imp id (fun q => by rw [zvo_J (by omega), show q1 = 13 from by omega]; show zjn 13 _ _ = _; rw [zR_13]; exact q)⟩
          | 11, _, c26 =>
            refine ⟨rfl, ?_⟩
            show cw_X _ _ _ 220 _ _ _
            refine ex_al oq_X12_valueOf_220 gL24_0 ?_
            refine ex_al oq_X12_valueOf_221 gL24_0 ?_
            obtain ⟨x88, ax88, rx88, lx88, ux88⟩ := fi_isError hT
            refine ex_gf oq_X12_valueOf_222 hT (k := 111) (d := 12) rfl rfl ax88 ?_
            have rx88 := (rx88.symm.trans he : x88.toInt = e)
            refine ex_if0 oq_X12_valueOf_225 (t := 235) rfl rfl (fun (c89 : ¬ x88.toInt = 0) => ?_) (fun (c89 : ¬ (¬ x88.toInt = 0)) => ?_)
            · refine ex_ic oq_X12_valueOf_235 (m := 1) (by decide) (fun x90 hx90 => ?_)
              refine ex_go oq_X12_valueOf_236 (t := 240) rfl rfl ?_
              refine ex_pfb oq_X12_valueOf_240 hT (k := 111) (d := 12) rfl rfl rfl (by omega) (by omega) (fun h91 Th91 wh91 => ?_)
              have eh91_111_48 : ri_at h91 111 48 = x90.toInt := ri_self wh91
              refine ex_al oq_X12_valueOf_243 gL24_0 ?_
              obtain ⟨x92, ax92, rx92, lx92, ux92⟩ := fi_isError Th91
              refine ex_gf oq_X12_valueOf_244 Th91 (k := 111) (d := 12) rfl rfl ax92 ?_
              have rx92 := (rx92.symm.trans eh91_111_48 : x92.toInt = x90.toInt)
              refine ex_if0 oq_X12_valueOf_247 (t := 254) rfl rfl (fun (c93 : x92.toInt = 0) => ?_) (fun (c93 : ¬ (x92.toInt = 0)) => ?_)
              · exfalso; omega
              · refine ex_lc oq_X12_valueOf_250 (m := 0) (by decide) (fun x94 hx94 => ?_)
                refine ex_go oq_X12_valueOf_251 (t := 258) rfl rfl ?_
                exact ex_retl oq_X12_valueOf_258 rfl (hQ x94 h91 Th91 (zE8_w wh91) (zbb_0 (by omega)) (.inr ⟨by omega, .inl (by omega)⟩))
            · refine ex_llw oq_X12_valueOf_228 gL24_4 ?_
              refine ex_lc oq_X12_valueOf_230 (m := 0) (by decide) (fun x95 hx95 => ?_)
              refine ex_lcmpV oq_X12_valueOf_231 (fun x96 hx96 => ?_)
              refine ex_if0 oq_X12_valueOf_232 (t := 239) rfl rfl (fun (c97 : ¬ x96.toInt = 0) => ?_) (fun (c97 : ¬ (¬ x96.toInt = 0)) => ?_)
              · refine ex_ic oq_X12_valueOf_239 (m := 0) (by decide) (fun x98 hx98 => ?_)
                refine ex_pfb oq_X12_valueOf_240 hT (k := 111) (d := 12) rfl rfl rfl (by omega) (by omega) (fun h99 Th99 wh99 => ?_)
                have eh99_111_48 : ri_at h99 111 48 = x98.toInt := ri_self wh99
                refine ex_al oq_X12_valueOf_243 gL24_0 ?_
                obtain ⟨x100, ax100, rx100, lx100, ux100⟩ := fi_isError Th99
                refine ex_gf oq_X12_valueOf_244 Th99 (k := 111) (d := 12) rfl rfl ax100 ?_
                have rx100 := (rx100.symm.trans eh99_111_48 : x100.toInt = x98.toInt)
                refine ex_if0 oq_X12_valueOf_247 (t := 254) rfl rfl (fun (c101 : x100.toInt = 0) => ?_) (fun (c101 : ¬ (x100.toInt = 0)) => ?_)
                · refine ex_ll oq_X12_valueOf_254 gL24_2 ?_
                  refine ex_llw oq_X12_valueOf_255 gL24_4 ?_
                  refine ex_ldivV oq_X12_valueOf_257 (by omega) (by omega) (fun x102 hx102 => ?_)
                  rw [show x17.toInt = V q2.toNat from by omega, show x23.toInt = V q3.toNat from by omega] at hx102
                  exact ex_retl oq_X12_valueOf_258 rfl (hQ x102 h99 Th99 (zE8_w wh99) (by rw [hx102]; exact tdiv_b (hV1 (by omega))) (.inl ⟨by omega, by omega, by rw [zvo_J (by omega), show q1 = 14 from by omega]; show zjn 14 _ _ = _; rw [zR_14, if_neg (by omega)]; exact congrArg some hx102.symm⟩))
                · exfalso; omega
              · refine ex_ic oq_X12_valueOf_235 (m := 1) (by decide) (fun x103 hx103 => ?_)
                refine ex_go oq_X12_valueOf_236 (t := 240) rfl rfl ?_
                refine ex_pfb oq_X12_valueOf_240 hT (k := 111) (d := 12) rfl rfl rfl (by omega) (by omega) (fun h104 Th104 wh104 => ?_)
                have eh104_111_48 : ri_at h104 111 48 = x103.toInt := ri_self wh104
                refine ex_al oq_X12_valueOf_243 gL24_0 ?_
                obtain ⟨x105, ax105, rx105, lx105, ux105⟩ := fi_isError Th104
                refine ex_gf oq_X12_valueOf_244 Th104 (k := 111) (d := 12) rfl rfl ax105 ?_
                have rx105 := (rx105.symm.trans eh104_111_48 : x105.toInt = x103.toInt)
                refine ex_if0 oq_X12_valueOf_247 (t := 254) rfl rfl (fun (c106 : x105.toInt = 0) => ?_) (fun (c106 : ¬ (x105.toInt = 0)) => ?_)
                · exfalso; omega
                · refine ex_lc oq_X12_valueOf_250 (m := 0) (by decide) (fun x107 hx107 => ?_)
                  refine ex_go oq_X12_valueOf_251 (t := 258) rfl rfl ?_
                  exact ex_retl oq_X12_valueOf_258 rfl (hQ x107 h104 Th104 (zE8_w wh104) (zbb_0 (by omega)) (.inr ⟨by omega, .inr (by rw [zvo_J (by omega), show q1 = 14 from by omega]; show zjn 14 _ _ = _; rw [zR_14, if_pos (by omega)])⟩))
          | i + 12, hi, _ => exact absurd hi (by show ¬ i + 12 < 12; omega)
      · refine ex_ll oq_X12_valueOf_61 gL18_2 ?_
        refine ex_lc oq_X12_valueOf_62 (m := 0) (by decide) (fun x108 hx108 => ?_)
        refine ex_lcmpV oq_X12_valueOf_63 (fun x109 hx109 => ?_)
        refine ex_if0 oq_X12_valueOf_64 (t := 71) rfl rfl (fun (c110 : ¬ x109.toInt = 0) => ?_) (fun (c110 : ¬ (¬ x109.toInt = 0)) => ?_)
        · refine ex_lc oq_X12_valueOf_71 (m := 0) (by decide) (fun x111 hx111 => ?_)
          have hz : zvo N V q1 q2 q3 = some x111.toInt := by unfold zvo; rw [if_neg (by omega), if_neg (by omega), if_pos (by omega)]; exact congrArg some (by split <;> omega)
          exact ex_retl oq_X12_valueOf_72 rfl (hQ x111 h hT zE8_0 (zvo_b hNb (fun q => by unfold zbb; omega) (fun q => hV1 (by omega)) hz (by omega)) (zvR_i hz h01 he))
        · refine ex_lc oq_X12_valueOf_67 (m := 1) (by decide) (fun x112 hx112 => ?_)
          refine ex_go oq_X12_valueOf_68 (t := 72) rfl rfl ?_
          have hz : zvo N V q1 q2 q3 = some x112.toInt := by unfold zvo; rw [if_neg (by omega), if_neg (by omega), if_pos (by omega)]; exact congrArg some (by split <;> omega)
          exact ex_retl oq_X12_valueOf_72 rfl (hQ x112 h hT zE8_0 (zvo_b hNb (fun q => by unfold zbb; omega) (fun q => hV1 (by omega)) hz (by omega)) (zvR_i hz h01 he))
    · refine ex_al oq_X12_valueOf_27 rfl ?_
      refine ex_gf oq_X12_valueOf_28 hT (k := 111) (d := 12) rfl rfl (fr_names hT) ?_
      refine ex_al oq_X12_valueOf_31 rfl ?_
      refine ex_gf oq_X12_valueOf_32 hT (k := 111) (d := 12) rfl rfl (fr_part hT) ?_
      refine ex_il oq_X12_valueOf_35 rfl ?_
      refine ex_ia1 oq_X12_valueOf_36 hT (k := 126) (d := 65) (j := kn) rfl rfl (by omega) (by omega) (fun x113 hx113 lx113 ux113 => ?_)
      have hx113 := (hx113.symm.trans r2 : x113.toInt = q2)
      refine ex_laV oq_X12_valueOf_37 hT (k := 132) (d := 71) (j := q2.toNat) rfl rfl (by omega) (by omega) (fun x114 hx114 => ?_)
      replace hx114 : x114.toInt = N q2.toNat := hx114.symm.trans (hN _ (by omega))
      have hz : zvo N V q1 q2 q3 = some x114.toInt := by unfold zvo; rw [if_neg (by omega), if_pos (by omega)]; exact congrArg some (by omega)
      exact ex_retl oq_X12_valueOf_38 rfl (hQ x114 h hT zE8_0 (zvo_b hNb (fun q => by unfold zbb; omega) (fun q => hV1 (by omega)) hz (by omega)) (zvR_i hz h01 he))
  · refine ex_al oq_X12_valueOf_9 rfl ?_
    refine ex_gf oq_X12_valueOf_10 hT (k := 111) (d := 12) rfl rfl (fr_part hT) ?_
    refine ex_il oq_X12_valueOf_13 rfl ?_
    refine ex_ia1 oq_X12_valueOf_14 hT (k := 126) (d := 65) (j := kn) rfl rfl (by omega) (by omega) (fun x115 hx115 lx115 ux115 => ?_)
    have hx115 := (hx115.symm.trans r2 : x115.toInt = q2)
    refine ex_i2l oq_X12_valueOf_15 (fun x116 hx116 => ?_)
    have hz : zvo N V q1 q2 q3 = some x116.toInt := by unfold zvo; rw [if_pos (by omega)]; exact congrArg some (by omega)
    exact ex_retl oq_X12_valueOf_16 rfl (hQ x116 h hT zE8_0 (zvo_b hNb (fun q => by unfold zbb; omega) (fun q => hV1 (by omega)) hz (by omega)) (zvR_i hz h01 he))
end GN
