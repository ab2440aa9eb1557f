/-! ===== the class reads words: digits, signs ===== -/
def tz_nr (m v : Int) : Prop := 0 ≤ m ∧ m ≤ 99999 ∧ 0 ≤ v ∧ v ≤ 1000000 ∧ (m ≤ 9999 → v = m) ∧ (9999 < m → 9999 < v)
theorem tz_nr_step {t : Nat → Int} {a k : Nat} {v w d : Int} (hn : tz_nr (tz_num t a k) v) (h0 : 48 ≤ t (a + k)) (h1 : t (a + k) ≤ 57) (hd : d = t (a + k)) (hw : w = 10 * v + d - 48 ∧ w ≤ 1000000 ∨ w = 1000000 ∧ 1000000 ≤ 10 * v + d - 48) : tz_nr (tz_num t a (k + 1)) w := by
  unfold tz_nr at hn ⊢
  have e : tz_num t a (k + 1) = if 9999 < tz_num t a k then tz_num t a k else 10 * tz_num t a k + (t (a + k) - 48) := rfl
  rw [e]
  generalize tz_num t a k = m at hn ⊢
  split <;> omega
section TZ
variable {G : Int} {X : cv_X} {Q : cv_O → Prop} {t : Nat → Int}
theorem oq_X6_readDigits_0 : cw_ho 80 0 (.aload_n 0) 1 0 0 0 := rfl
theorem oq_X6_readDigits_1 : cw_ho 80 1 (.getfield 46) 3 6 3 0 := rfl
theorem oq_X6_readDigits_4 : cw_ho 80 4 (.aload_n 0) 1 0 0 0 := rfl
theorem oq_X6_readDigits_5 : cw_ho 80 5 (.getfield 43) 3 6 2 0 := rfl
theorem oq_X6_readDigits_8 : cw_ho 80 8 (.if_icmp .ge 73) 3 0 0 0 := rfl
theorem oq_X6_readDigits_11 : cw_ho 80 11 (.aload_n 0) 1 0 0 0 := rfl
theorem oq_X6_readDigits_12 : cw_ho 80 12 (.getfield 15) 3 6 0 4 := rfl
theorem oq_X6_readDigits_15 : cw_ho 80 15 (.aload_n 0) 1 0 0 0 := rfl
theorem oq_X6_readDigits_16 : cw_ho 80 16 (.getfield 46) 3 6 3 0 := rfl
theorem oq_X6_readDigits_19 : cw_ho 80 19 (.baload) 1 0 0 0 := rfl
theorem oq_X6_readDigits_20 : cw_ho 80 20 (.bipush 48) 2 0 0 0 := rfl
theorem oq_X6_readDigits_22 : cw_ho 80 22 (.if_icmp .lt 59) 3 0 0 0 := rfl
theorem oq_X6_readDigits_25 : cw_ho 80 25 (.aload_n 0) 1 0 0 0 := rfl
theorem oq_X6_readDigits_26 : cw_ho 80 26 (.getfield 15) 3 6 0 4 := rfl
theorem oq_X6_readDigits_29 : cw_ho 80 29 (.aload_n 0) 1 0 0 0 := rfl
theorem oq_X6_readDigits_30 : cw_ho 80 30 (.getfield 46) 3 6 3 0 := rfl
theorem oq_X6_readDigits_33 : cw_ho 80 33 (.baload) 1 0 0 0 := rfl
theorem oq_X6_readDigits_34 : cw_ho 80 34 (.bipush 57) 2 0 0 0 := rfl
theorem oq_X6_readDigits_36 : cw_ho 80 36 (.if_icmp .gt 45) 3 0 0 0 := rfl
theorem oq_X6_readDigits_39 : cw_ho 80 39 (.aload_n 0) 1 0 0 0 := rfl
theorem oq_X6_readDigits_40 : cw_ho 80 40 (.ldc 71) 2 0 0 1000000 := rfl
theorem oq_X6_readDigits_42 : cw_ho 80 42 (.bipush 10) 2 0 0 0 := rfl
theorem oq_X6_readDigits_44 : cw_ho 80 44 (.aload_n 0) 1 0 0 0 := rfl
theorem oq_X6_readDigits_45 : cw_ho 80 45 (.getfield 55) 3 6 6 0 := rfl
theorem oq_X6_readDigits_48 : cw_ho 80 48 (.imul) 1 0 0 0 := rfl
theorem oq_X6_readDigits_49 : cw_ho 80 49 (.aload_n 0) 1 0 0 0 := rfl
theorem oq_X6_readDigits_50 : cw_ho 80 50 (.getfield 15) 3 6 0 4 := rfl
theorem oq_X6_readDigits_53 : cw_ho 80 53 (.aload_n 0) 1 0 0 0 := rfl
theorem oq_X6_readDigits_54 : cw_ho 80 54 (.getfield 46) 3 6 3 0 := rfl
theorem oq_X6_readDigits_57 : cw_ho 80 57 (.baload) 1 0 0 0 := rfl
theorem oq_X6_readDigits_58 : cw_ho 80 58 (.iadd) 1 0 0 0 := rfl
theorem oq_X6_readDigits_59 : cw_ho 80 59 (.bipush 48) 2 0 0 0 := rfl
theorem oq_X6_readDigits_61 : cw_ho 80 61 (.isub) 1 0 0 0 := rfl
theorem oq_X6_readDigits_62 : cw_ho 80 62 (.invokestatic 35) 3 9002 2 0 := rfl
theorem oq_X6_readDigits_65 : cw_ho 80 65 (.putfield 55) 3 6 6 0 := rfl
theorem oq_X6_readDigits_68 : cw_ho 80 68 (.aload_n 0) 1 0 0 0 := rfl
theorem oq_X6_readDigits_69 : cw_ho 80 69 (.dup) 1 0 0 0 := rfl
theorem oq_X6_readDigits_70 : cw_ho 80 70 (.getfield 46) 3 6 3 0 := rfl
theorem oq_X6_readDigits_73 : cw_ho 80 73 (.iconst 1) 1 0 0 0 := rfl
theorem oq_X6_readDigits_74 : cw_ho 80 74 (.iadd) 1 0 0 0 := rfl
theorem oq_X6_readDigits_75 : cw_ho 80 75 (.putfield 46) 3 6 3 0 := rfl
theorem oq_X6_readDigits_78 : cw_ho 80 78 (.goto (-78)) 3 0 0 0 := rfl
theorem oq_X6_readDigits_81 : cw_ho 80 81 (.aload_n 0) 1 0 0 0 := rfl
theorem oq_X6_readDigits_82 : cw_ho 80 82 (.iconst 4) 1 0 0 0 := rfl
theorem oq_X6_readDigits_83 : cw_ho 80 83 (.putfield 58) 3 6 4 0 := rfl
theorem oq_X6_readDigits_86 : cw_ho 80 86 (.return_) 1 0 0 0 := rfl
theorem ct_readDigits {h0 : cv_H} {n a : Nat} (ht : ∀ i, t i = ri_at h0 1 i % 256) (hn9 : n ≤ 900) (hQ : ∀ h', cw_T G h' → cw_Fr cw_Ds cw_sh kk_X6_readDigits.2.2.2.2.2.1 h0 h' → ri_at h' 51 2 = n → ri_at h' 51 3 = (tz_to (tz_d t) n a : Nat) → ri_at h' 51 5 = ri_at h0 51 5 → ri_at h' 51 4 = 4 → tz_nr (tz_num t a (tz_to (tz_d t) n a - a)) (ri_at h' 51 6) → Q (none, h')) :
    ∀ (f k : Nat) (h : cv_H), n - (a + k) = f → cw_T G h → cw_Fr cw_Ds cw_sh kk_X6_readDigits.2.2.2.2.2.1 h0 h → ri_at h 51 2 = n → ri_at h 51 3 = ((a + k : Nat) : Int) → ri_at h 51 5 = ri_at h0 51 5 → tz_to (tz_d t) n (a + k) = tz_to (tz_d t) n a → tz_nr (tz_num t a k) (ri_at h 51 6) → cw_X X 80 Q 0 (cv_ent 0 [cv_r 51]) [] h := by
  have hA : ∀ h, cw_Fr cw_Ds cw_sh kk_X6_readDigits.2.2.2.2.2.1 h0 h → ∀ i, ri_at h 1 i = ri_at h0 1 i := fun h F i => ri_frr F (k := 1) (d := 13) rfl rfl (by decide +kernel)
  intro f
  induction f with
  | zero =>
    intro k h hf hT Fh hl hat hpl hst hnr
    have hnr2 := hnr
    unfold tz_nr at hnr2
    refine ex_al oq_X6_readDigits_0 rfl ?_
    obtain ⟨x1, ax1, rx1, lx1, ux1⟩ := ri_fld (k := 51) (d := 6) (f := 3) hT rfl rfl rfl
    try dsimp only at lx1 ux1
    refine ex_gf oq_X6_readDigits_1 hT (k := 51) (d := 6) rfl rfl ax1 ?_
    refine ex_al oq_X6_readDigits_4 rfl ?_
    obtain ⟨x2, ax2, rx2, lx2, ux2⟩ := ri_fld (k := 51) (d := 6) (f := 2) hT rfl rfl rfl
    try dsimp only at lx2 ux2
    refine ex_gf oq_X6_readDigits_5 hT (k := 51) (d := 6) rfl rfl ax2 ?_
    refine ex_if oq_X6_readDigits_8 (t := 81) rfl rfl (fun (c3 : x2.toInt ≤ x1.toInt) => ?_) (fun (c3 : ¬ (x2.toInt ≤ x1.toInt)) => ?_)
    · refine ex_al oq_X6_readDigits_81 rfl ?_
      refine ex_ic oq_X6_readDigits_82 (m := 4) (by decide) (fun x4 hx4 => ?_)
      refine ex_pfi oq_X6_readDigits_83 hT (k := 51) (d := 6) rfl rfl rfl (cw_i32 _).1 (cw_i32 _).2 (fun h5 Th5 wh5 => ?_)
      have Fh5 : cw_Fr cw_Ds cw_sh kk_X6_readDigits.2.2.2.2.2.1 h0 h5 := cw_Fr_tr Fh (cw_Fr_wrf wh5 (k := 51) (d := 6) rfl rfl (by decide +kernel))
      have eh5_51_2 : ri_at h5 51 2 = ri_at h 51 2 := ri_ne wh5 (by decide)
      have eh5_51_3 : ri_at h5 51 3 = ri_at h 51 3 := ri_ne wh5 (by decide)
      have eh5_51_4 : ri_at h5 51 4 = x4.toInt := ri_self wh5
      have eh5_51_5 : ri_at h5 51 5 = ri_at h 51 5 := ri_ne wh5 (by decide)
      have eh5_51_6 : ri_at h5 51 6 = ri_at h 51 6 := ri_ne wh5 (by decide)
      have hk : a + k = tz_to (tz_d t) n a := by rw [← hst]; exact (tz_to_stop (fun q => tz_d_f (by omega))).symm
      have ek : tz_to (tz_d t) n a - a = k := by omega
      exact ex_retv oq_X6_readDigits_86 rfl (hQ h5 Th5 Fh5 (by omega) (by omega) (by omega) (by omega) (by rw [ek, show ri_at h5 51 6 = ri_at h 51 6 from by omega]; exact hnr))
    · exfalso; omega
  | succ f ih =>
    intro k h hf hT Fh hl hat hpl hst hnr
    have hnr2 := hnr
    unfold tz_nr at hnr2
    refine ex_al oq_X6_readDigits_0 rfl ?_
    obtain ⟨x1, ax1, rx1, lx1, ux1⟩ := ri_fld (k := 51) (d := 6) (f := 3) hT rfl rfl rfl
    try dsimp only at lx1 ux1
    refine ex_gf oq_X6_readDigits_1 hT (k := 51) (d := 6) rfl rfl ax1 ?_
    refine ex_al oq_X6_readDigits_4 rfl ?_
    obtain ⟨x2, ax2, rx2, lx2, ux2⟩ := ri_fld (k := 51) (d := 6) (f := 2) hT rfl rfl rfl
    try dsimp only at lx2 ux2
    refine ex_gf oq_X6_readDigits_5 hT (k := 51) (d := 6) rfl rfl ax2 ?_
    refine ex_if oq_X6_readDigits_8 (t := 81) rfl rfl (fun (c3 : x2.toInt ≤ x1.toInt) => ?_) (fun (c3 : ¬ (x2.toInt ≤ x1.toInt)) => ?_)
    · refine ex_al oq_X6_readDigits_81 rfl ?_
      refine ex_ic oq_X6_readDigits_82 (m := 4) (by decide) (fun x4 hx4 => ?_)
      refine ex_pfi oq_X6_readDigits_83 hT (k := 51) (d := 6) rfl rfl rfl (cw_i32 _).1 (cw_i32 _).2 (fun h5 Th5 wh5 => ?_)
      have Fh5 : cw_Fr cw_Ds cw_sh kk_X6_readDigits.2.2.2.2.2.1 h0 h5 := cw_Fr_tr Fh (cw_Fr_wrf wh5 (k := 51) (d := 6) rfl rfl (by decide +kernel))
      have eh5_51_2 : ri_at h5 51 2 = ri_at h 51 2 := ri_ne wh5 (by decide)
      have eh5_51_3 : ri_at h5 51 3 = ri_at h 51 3 := ri_ne wh5 (by decide)
      have eh5_51_4 : ri_at h5 51 4 = x4.toInt := ri_self wh5
      have eh5_51_5 : ri_at h5 51 5 = ri_at h 51 5 := ri_ne wh5 (by decide)
      have eh5_51_6 : ri_at h5 51 6 = ri_at h 51 6 := ri_ne wh5 (by decide)
      have hk : a + k = tz_to (tz_d t) n a := by rw [← hst]; exact (tz_to_stop (fun q => tz_d_f (by omega))).symm
      have ek : tz_to (tz_d t) n a - a = k := by omega
      exact ex_retv oq_X6_readDigits_86 rfl (hQ h5 Th5 Fh5 (by omega) (by omega) (by omega) (by omega) (by rw [ek, show ri_at h5 51 6 = ri_at h 51 6 from by omega]; exact hnr))
    · refine ex_al oq_X6_readDigits_11 rfl ?_
      refine ex_gf oq_X6_readDigits_12 hT (k := 51) (d := 6) rfl rfl (ri_ref (k := 51) (k' := 1) (d := 6) (f := 0) hT rfl rfl rfl (by decide) (ri_uniq (by decide +kernel))) ?_
      refine ex_al oq_X6_readDigits_15 rfl ?_
      obtain ⟨x6, ax6, rx6, lx6, ux6⟩ := ri_fld (k := 51) (d := 6) (f := 3) hT rfl rfl rfl
      try dsimp only at lx6 ux6
      refine ex_gf oq_X6_readDigits_16 hT (k := 51) (d := 6) rfl rfl ax6 ?_
      refine ex_ba1 oq_X6_readDigits_19 hT (k := 1) (d := 13) (j := a + k) rfl rfl rfl (by omega) (by omega) (fun x7 hx7 lx7 ux7 => ?_)
      try dsimp only at lx7 ux7
      have tx7 : t (a + k) = x7.toInt % 256 := by rw [ht, ← hA _ Fh, hx7]
      refine ex_bi oq_X6_readDigits_20 (m := 48) (by decide) (fun x8 hx8 => ?_)
      refine ex_if oq_X6_readDigits_22 (t := 81) rfl rfl (fun (c9 : x7.toInt < x8.toInt) => ?_) (fun (c9 : ¬ (x7.toInt < x8.toInt)) => ?_)
      · refine ex_al oq_X6_readDigits_81 rfl ?_
        refine ex_ic oq_X6_readDigits_82 (m := 4) (by decide) (fun x10 hx10 => ?_)
        refine ex_pfi oq_X6_readDigits_83 hT (k := 51) (d := 6) rfl rfl rfl (cw_i32 _).1 (cw_i32 _).2 (fun h11 Th11 wh11 => ?_)
        have Fh11 : cw_Fr cw_Ds cw_sh kk_X6_readDigits.2.2.2.2.2.1 h0 h11 := cw_Fr_tr Fh (cw_Fr_wrf wh11 (k := 51) (d := 6) rfl rfl (by decide +kernel))
        have eh11_51_2 : ri_at h11 51 2 = ri_at h 51 2 := ri_ne wh11 (by decide)
        have eh11_51_3 : ri_at h11 51 3 = ri_at h 51 3 := ri_ne wh11 (by decide)
        have eh11_51_4 : ri_at h11 51 4 = x10.toInt := ri_self wh11
        have eh11_51_5 : ri_at h11 51 5 = ri_at h 51 5 := ri_ne wh11 (by decide)
        have eh11_51_6 : ri_at h11 51 6 = ri_at h 51 6 := ri_ne wh11 (by decide)
        have hk : a + k = tz_to (tz_d t) n a := by rw [← hst]; exact (tz_to_stop (fun q => tz_d_f (by omega))).symm
        have ek : tz_to (tz_d t) n a - a = k := by omega
        exact ex_retv oq_X6_readDigits_86 rfl (hQ h11 Th11 Fh11 (by omega) (by omega) (by omega) (by omega) (by rw [ek, show ri_at h11 51 6 = ri_at h 51 6 from by omega]; exact hnr))
      · refine ex_al oq_X6_readDigits_25 rfl ?_
        refine ex_gf oq_X6_readDigits_26 hT (k := 51) (d := 6) rfl rfl (ri_ref (k := 51) (k' := 1) (d := 6) (f := 0) hT rfl rfl rfl (by decide) (ri_uniq (by decide +kernel))) ?_
        refine ex_al oq_X6_readDigits_29 rfl ?_
        obtain ⟨x12, ax12, rx12, lx12, ux12⟩ := ri_fld (k := 51) (d := 6) (f := 3) hT rfl rfl rfl
        try dsimp only at lx12 ux12
        refine ex_gf oq_X6_readDigits_30 hT (k := 51) (d := 6) rfl rfl ax12 ?_
        refine ex_ba1 oq_X6_readDigits_33 hT (k := 1) (d := 13) (j := a + k) rfl rfl rfl (by omega) (by omega) (fun x13 hx13 lx13 ux13 => ?_)
        try dsimp only at lx13 ux13
        have tx13 : t (a + k) = x13.toInt % 256 := by rw [ht, ← hA _ Fh, hx13]
        refine ex_bi oq_X6_readDigits_34 (m := 57) (by decide) (fun x14 hx14 => ?_)
        refine ex_if oq_X6_readDigits_36 (t := 81) rfl rfl (fun (c15 : x14.toInt < x13.toInt) => ?_) (fun (c15 : ¬ (x14.toInt < x13.toInt)) => ?_)
        · refine ex_al oq_X6_readDigits_81 rfl ?_
          refine ex_ic oq_X6_readDigits_82 (m := 4) (by decide) (fun x16 hx16 => ?_)
          refine ex_pfi oq_X6_readDigits_83 hT (k := 51) (d := 6) rfl rfl rfl (cw_i32 _).1 (cw_i32 _).2 (fun h17 Th17 wh17 => ?_)
          have Fh17 : cw_Fr cw_Ds cw_sh kk_X6_readDigits.2.2.2.2.2.1 h0 h17 := cw_Fr_tr Fh (cw_Fr_wrf wh17 (k := 51) (d := 6) rfl rfl (by decide +kernel))
          have eh17_51_2 : ri_at h17 51 2 = ri_at h 51 2 := ri_ne wh17 (by decide)
          have eh17_51_3 : ri_at h17 51 3 = ri_at h 51 3 := ri_ne wh17 (by decide)
          have eh17_51_4 : ri_at h17 51 4 = x16.toInt := ri_self wh17
          have eh17_51_5 : ri_at h17 51 5 = ri_at h 51 5 := ri_ne wh17 (by decide)
          have eh17_51_6 : ri_at h17 51 6 = ri_at h 51 6 := ri_ne wh17 (by decide)
          have hk : a + k = tz_to (tz_d t) n a := by rw [← hst]; exact (tz_to_stop (fun q => tz_d_f (by omega))).symm
          have ek : tz_to (tz_d t) n a - a = k := by omega
          exact ex_retv oq_X6_readDigits_86 rfl (hQ h17 Th17 Fh17 (by omega) (by omega) (by omega) (by omega) (by rw [ek, show ri_at h17 51 6 = ri_at h 51 6 from by omega]; exact hnr))
        · refine ex_al oq_X6_readDigits_39 rfl ?_
          refine ex_ldc oq_X6_readDigits_40 (m := 1000000) (by decide) (fun x18 hx18 => ?_)
          refine ex_bi oq_X6_readDigits_42 (m := 10) (by decide) (fun x19 hx19 => ?_)
          refine ex_al oq_X6_readDigits_44 rfl ?_
          obtain ⟨x20, ax20, rx20, lx20, ux20⟩ := ri_fld (k := 51) (d := 6) (f := 6) hT rfl rfl rfl
          try dsimp only at lx20 ux20
          refine ex_gf oq_X6_readDigits_45 hT (k := 51) (d := 6) rfl rfl ax20 ?_
          refine ex_mul oq_X6_readDigits_48 (m := 10 * x20.toInt) (by rw [hx19]) (by omega) (fun x21 hx21 => ?_)
          refine ex_al oq_X6_readDigits_49 rfl ?_
          refine ex_gf oq_X6_readDigits_50 hT (k := 51) (d := 6) rfl rfl (ri_ref (k := 51) (k' := 1) (d := 6) (f := 0) hT rfl rfl rfl (by decide) (ri_uniq (by decide +kernel))) ?_
          refine ex_al oq_X6_readDigits_53 rfl ?_
          obtain ⟨x22, ax22, rx22, lx22, ux22⟩ := ri_fld (k := 51) (d := 6) (f := 3) hT rfl rfl rfl
          try dsimp only at lx22 ux22
          refine ex_gf oq_X6_readDigits_54 hT (k := 51) (d := 6) rfl rfl ax22 ?_
          refine ex_ba1 oq_X6_readDigits_57 hT (k := 1) (d := 13) (j := a + k) rfl rfl rfl (by omega) (by omega) (fun x23 hx23 lx23 ux23 => ?_)
          try dsimp only at lx23 ux23
          have tx23 : t (a + k) = x23.toInt % 256 := by rw [ht, ← hA _ Fh, hx23]
          refine ex_add oq_X6_readDigits_58 (by omega) (fun x24 hx24 => ?_)
          refine ex_bi oq_X6_readDigits_59 (m := 48) (by decide) (fun x25 hx25 => ?_)
          refine ex_sub oq_X6_readDigits_61 (by omega) (fun x26 hx26 => ?_)
          refine ex_min oq_X6_readDigits_62 (by decide) (by decide) (fun x27 hx27 => ?_)
          refine ex_pfi oq_X6_readDigits_65 hT (k := 51) (d := 6) rfl rfl rfl (cw_i32 _).1 (cw_i32 _).2 (fun h28 Th28 wh28 => ?_)
          have Fh28 : cw_Fr cw_Ds cw_sh kk_X6_readDigits.2.2.2.2.2.1 h0 h28 := cw_Fr_tr Fh (cw_Fr_wrf wh28 (k := 51) (d := 6) rfl rfl (by decide +kernel))
          have eh28_51_2 : ri_at h28 51 2 = ri_at h 51 2 := ri_ne wh28 (by decide)
          have eh28_51_3 : ri_at h28 51 3 = ri_at h 51 3 := ri_ne wh28 (by decide)
          have eh28_51_4 : ri_at h28 51 4 = ri_at h 51 4 := ri_ne wh28 (by decide)
          have eh28_51_5 : ri_at h28 51 5 = ri_at h 51 5 := ri_ne wh28 (by decide)
          have eh28_51_6 : ri_at h28 51 6 = x27.toInt := ri_self wh28
          refine ex_al oq_X6_readDigits_68 rfl ?_
          refine ex_dup oq_X6_readDigits_69 rfl ?_
          obtain ⟨x29, ax29, rx29, lx29, ux29⟩ := ri_fld (k := 51) (d := 6) (f := 3) Th28 rfl rfl rfl
          try dsimp only at lx29 ux29
          refine ex_gf oq_X6_readDigits_70 Th28 (k := 51) (d := 6) rfl rfl ax29 ?_
          refine ex_ic oq_X6_readDigits_73 (m := 1) (by decide) (fun x30 hx30 => ?_)
          refine ex_add oq_X6_readDigits_74 (by omega) (fun x31 hx31 => ?_)
          refine ex_pfi oq_X6_readDigits_75 Th28 (k := 51) (d := 6) rfl rfl rfl (by omega) (by omega) (fun h32 Th32 wh32 => ?_)
          have Fh32 : cw_Fr cw_Ds cw_sh kk_X6_readDigits.2.2.2.2.2.1 h0 h32 := cw_Fr_tr Fh28 (cw_Fr_wrf wh32 (k := 51) (d := 6) rfl rfl (by decide +kernel))
          have eh32_51_2 : ri_at h32 51 2 = ri_at h28 51 2 := ri_ne wh32 (by decide)
          have eh32_51_3 : ri_at h32 51 3 = x31.toInt := ri_self wh32
          have eh32_51_4 : ri_at h32 51 4 = ri_at h28 51 4 := ri_ne wh32 (by decide)
          have eh32_51_5 : ri_at h32 51 5 = ri_at h28 51 5 := ri_ne wh32 (by decide)
          have eh32_51_6 : ri_at h32 51 6 = ri_at h28 51 6 := ri_ne wh32 (by decide)
          refine ex_go oq_X6_readDigits_78 (t := 0) rfl rfl ?_
          exact ih (k + 1) h32 (by omega) Th32 Fh32 (by omega) (by omega) (by omega) (by rw [← hst]; exact (tz_to_step (p := a + k) (by omega) (tz_d_t (i := a + k) (by omega) (by omega))).symm) (by rw [show ri_at h32 51 6 = x27.toInt from by omega]; exact tz_nr_step hnr (by omega) (by omega) (d := t (a + k)) rfl (by omega))
theorem oq_X6_takes_0 : cw_ho 82 0 (.aload_n 0) 1 0 0 0 := rfl
theorem oq_X6_takes_1 : cw_ho 82 1 (.getfield 46) 3 6 3 0 := rfl
theorem oq_X6_takes_4 : cw_ho 82 4 (.aload_n 0) 1 0 0 0 := rfl
theorem oq_X6_takes_5 : cw_ho 82 5 (.getfield 43) 3 6 2 0 := rfl
theorem oq_X6_takes_8 : cw_ho 82 8 (.if_icmp .ge 28) 3 0 0 0 := rfl
theorem oq_X6_takes_11 : cw_ho 82 11 (.aload_n 0) 1 0 0 0 := rfl
theorem oq_X6_takes_12 : cw_ho 82 12 (.getfield 15) 3 6 0 4 := rfl
theorem oq_X6_takes_15 : cw_ho 82 15 (.aload_n 0) 1 0 0 0 := rfl
theorem oq_X6_takes_16 : cw_ho 82 16 (.getfield 46) 3 6 3 0 := rfl
theorem oq_X6_takes_19 : cw_ho 82 19 (.baload) 1 0 0 0 := rfl
theorem oq_X6_takes_20 : cw_ho 82 20 (.iload_n 1) 1 0 0 0 := rfl
theorem oq_X6_takes_21 : cw_ho 82 21 (.if_icmp .ne 15) 3 0 0 0 := rfl
theorem oq_X6_takes_24 : cw_ho 82 24 (.aload_n 0) 1 0 0 0 := rfl
theorem oq_X6_takes_25 : cw_ho 82 25 (.dup) 1 0 0 0 := rfl
theorem oq_X6_takes_26 : cw_ho 82 26 (.getfield 46) 3 6 3 0 := rfl
theorem oq_X6_takes_29 : cw_ho 82 29 (.iconst 1) 1 0 0 0 := rfl
theorem oq_X6_takes_30 : cw_ho 82 30 (.iadd) 1 0 0 0 := rfl
theorem oq_X6_takes_31 : cw_ho 82 31 (.putfield 46) 3 6 3 0 := rfl
theorem oq_X6_takes_34 : cw_ho 82 34 (.iconst 1) 1 0 0 0 := rfl
theorem oq_X6_takes_35 : cw_ho 82 35 (.ireturn) 1 0 0 0 := rfl
theorem oq_X6_takes_36 : cw_ho 82 36 (.iconst 0) 1 0 0 0 := rfl
theorem oq_X6_takes_37 : cw_ho 82 37 (.ireturn) 1 0 0 0 := rfl
theorem ct_takes {h0 : cv_H} {n q : Nat} (ht : ∀ i, t i = ri_at h0 1 i % 256) (hT : cw_T G h0) (hn9 : n ≤ 900) (hl : ri_at h0 51 2 = n) (hat : ri_at h0 51 3 = q) (c : Int32) (hc : 0 ≤ c.toInt ∧ c.toInt ≤ 127) (hQ : ∀ (x : Int32) h', cw_T G h' → cw_Fr cw_Ds cw_sh kk_X6_takes.2.2.2.2.2.1 h0 h' → ri_at h' 51 2 = n → ri_at h' 51 4 = ri_at h0 51 4 → ri_at h' 51 5 = ri_at h0 51 5 → ri_at h' 51 6 = ri_at h0 51 6 → ((q < n ∧ t q = c.toInt) ∧ x.toInt = 1 ∧ ri_at h' 51 3 = q + 1 ∨ ¬ (q < n ∧ t q = c.toInt) ∧ x.toInt = 0 ∧ ri_at h' 51 3 = q) → Q (some (cv_i x), h')) : cw_X X 82 Q 0 (cv_ent 0 [cv_r 51, cv_i c]) [] h0 := by
  have Fh0 : cw_Fr cw_Ds cw_sh kk_X6_takes.2.2.2.2.2.1 h0 h0 := cw_Fr_refl
  have hA : ∀ h, cw_Fr cw_Ds cw_sh kk_X6_takes.2.2.2.2.2.1 h0 h → ∀ i, ri_at h 1 i = ri_at h0 1 i := fun h F i => ri_frr F (k := 1) (d := 13) rfl rfl (by decide +kernel)
  refine ex_al oq_X6_takes_0 rfl ?_
  obtain ⟨x201, ax201, rx201, lx201, ux201⟩ := ri_fld (k := 51) (d := 6) (f := 3) hT rfl rfl rfl
  try dsimp only at lx201 ux201
  refine ex_gf oq_X6_takes_1 hT (k := 51) (d := 6) rfl rfl ax201 ?_
  refine ex_al oq_X6_takes_4 rfl ?_
  obtain ⟨x202, ax202, rx202, lx202, ux202⟩ := ri_fld (k := 51) (d := 6) (f := 2) hT rfl rfl rfl
  try dsimp only at lx202 ux202
  refine ex_gf oq_X6_takes_5 hT (k := 51) (d := 6) rfl rfl ax202 ?_
  refine ex_if oq_X6_takes_8 (t := 36) rfl rfl (fun (c203 : x202.toInt ≤ x201.toInt) => ?_) (fun (c203 : ¬ (x202.toInt ≤ x201.toInt)) => ?_)
  · refine ex_ic oq_X6_takes_36 (m := 0) (by decide) (fun x204 hx204 => ?_)
    exact ex_retb oq_X6_takes_37 rfl (by omega) (by omega) (hQ x204 h0 hT Fh0 (by omega) (by omega) (by omega) (by omega) (by omega))
  · refine ex_al oq_X6_takes_11 rfl ?_
    refine ex_gf oq_X6_takes_12 hT (k := 51) (d := 6) rfl rfl (ri_ref (k := 51) (k' := 1) (d := 6) (f := 0) hT rfl rfl rfl (by decide) (ri_uniq (by decide +kernel))) ?_
    refine ex_al oq_X6_takes_15 rfl ?_
    obtain ⟨x205, ax205, rx205, lx205, ux205⟩ := ri_fld (k := 51) (d := 6) (f := 3) hT rfl rfl rfl
    try dsimp only at lx205 ux205
    refine ex_gf oq_X6_takes_16 hT (k := 51) (d := 6) rfl rfl ax205 ?_
    refine ex_ba1 oq_X6_takes_19 hT (k := 1) (d := 13) (j := q) rfl rfl rfl (by omega) (by omega) (fun x206 hx206 lx206 ux206 => ?_)
    try dsimp only at lx206 ux206
    have tx206 : t (q) = x206.toInt % 256 := by rw [ht, ← hA _ Fh0, hx206]
    refine ex_il oq_X6_takes_20 rfl ?_
    refine ex_if oq_X6_takes_21 (t := 36) rfl rfl (fun (c207 : ¬ x206.toInt = c.toInt) => ?_) (fun (c207 : ¬ (¬ x206.toInt = c.toInt)) => ?_)
    · refine ex_ic oq_X6_takes_36 (m := 0) (by decide) (fun x208 hx208 => ?_)
      exact ex_retb oq_X6_takes_37 rfl (by omega) (by omega) (hQ x208 h0 hT Fh0 (by omega) (by omega) (by omega) (by omega) (by omega))
    · refine ex_al oq_X6_takes_24 rfl ?_
      refine ex_dup oq_X6_takes_25 rfl ?_
      obtain ⟨x209, ax209, rx209, lx209, ux209⟩ := ri_fld (k := 51) (d := 6) (f := 3) hT rfl rfl rfl
      try dsimp only at lx209 ux209
      refine ex_gf oq_X6_takes_26 hT (k := 51) (d := 6) rfl rfl ax209 ?_
      refine ex_ic oq_X6_takes_29 (m := 1) (by decide) (fun x210 hx210 => ?_)
      refine ex_add oq_X6_takes_30 (by omega) (fun x211 hx211 => ?_)
      refine ex_pfi oq_X6_takes_31 hT (k := 51) (d := 6) rfl rfl rfl (by omega) (by omega) (fun h212 Th212 wh212 => ?_)
      have Fh212 : cw_Fr cw_Ds cw_sh kk_X6_takes.2.2.2.2.2.1 h0 h212 := cw_Fr_tr Fh0 (cw_Fr_wrf wh212 (k := 51) (d := 6) rfl rfl (by decide +kernel))
      have eh212_51_2 : ri_at h212 51 2 = ri_at h0 51 2 := ri_ne wh212 (by decide)
      have eh212_51_3 : ri_at h212 51 3 = x211.toInt := ri_self wh212
      have eh212_51_4 : ri_at h212 51 4 = ri_at h0 51 4 := ri_ne wh212 (by decide)
      have eh212_51_5 : ri_at h212 51 5 = ri_at h0 51 5 := ri_ne wh212 (by decide)
      have eh212_51_6 : ri_at h212 51 6 = ri_at h0 51 6 := ri_ne wh212 (by decide)
      refine ex_ic oq_X6_takes_34 (m := 1) (by decide) (fun x213 hx213 => ?_)
      exact ex_retb oq_X6_takes_35 rfl (by omega) (by omega) (hQ x213 h212 Th212 Fh212 (by omega) (by omega) (by omega) (by omega) (by omega))
theorem oq_X6_readSign_0 : cw_ho 81 0 (.aload_n 0) 1 0 0 0 := rfl
theorem oq_X6_readSign_1 : cw_ho 81 1 (.dup) 1 0 0 0 := rfl
theorem oq_X6_readSign_2 : cw_ho 81 2 (.getfield 46) 3 6 3 0 := rfl
theorem oq_X6_readSign_5 : cw_ho 81 5 (.iconst 1) 1 0 0 0 := rfl
theorem oq_X6_readSign_6 : cw_ho 81 6 (.iadd) 1 0 0 0 := rfl
theorem oq_X6_readSign_7 : cw_ho 81 7 (.putfield 46) 3 6 3 0 := rfl
theorem oq_X6_readSign_10 : cw_ho 81 10 (.aload_n 0) 1 0 0 0 := rfl
theorem oq_X6_readSign_11 : cw_ho 81 11 (.iconst 5) 1 0 0 0 := rfl
theorem oq_X6_readSign_12 : cw_ho 81 12 (.putfield 58) 3 6 4 0 := rfl
theorem oq_X6_readSign_15 : cw_ho 81 15 (.iload_n 1) 1 0 0 0 := rfl
theorem oq_X6_readSign_16 : cw_ho 81 16 (.tableswitch 250 40 62 #[117, 126, 155, 135, 250, 145, 250, 165, 250, 250, 250, 250, 250, 250, 250, 250, 250, 250, 250, 108, 185, 175, 225]) 108 0 0 0 := rfl
theorem oq_X6_readSign_124 : cw_ho 81 124 (.aload_n 0) 1 0 0 0 := rfl
theorem oq_X6_readSign_125 : cw_ho 81 125 (.bipush 8) 2 0 0 0 := rfl
theorem oq_X6_readSign_127 : cw_ho 81 127 (.putfield 58) 3 6 4 0 := rfl
theorem oq_X6_readSign_130 : cw_ho 81 130 (.goto 141) 3 0 0 0 := rfl
theorem oq_X6_readSign_133 : cw_ho 81 133 (.aload_n 0) 1 0 0 0 := rfl
theorem oq_X6_readSign_134 : cw_ho 81 134 (.bipush 6) 2 0 0 0 := rfl
theorem oq_X6_readSign_136 : cw_ho 81 136 (.putfield 58) 3 6 4 0 := rfl
theorem oq_X6_readSign_139 : cw_ho 81 139 (.goto 132) 3 0 0 0 := rfl
theorem oq_X6_readSign_142 : cw_ho 81 142 (.aload_n 0) 1 0 0 0 := rfl
theorem oq_X6_readSign_143 : cw_ho 81 143 (.bipush 7) 2 0 0 0 := rfl
theorem oq_X6_readSign_145 : cw_ho 81 145 (.putfield 58) 3 6 4 0 := rfl
theorem oq_X6_readSign_148 : cw_ho 81 148 (.goto 123) 3 0 0 0 := rfl
theorem oq_X6_readSign_151 : cw_ho 81 151 (.aload_n 0) 1 0 0 0 := rfl
theorem oq_X6_readSign_152 : cw_ho 81 152 (.sipush 20009) 3 0 0 0 := rfl
theorem oq_X6_readSign_155 : cw_ho 81 155 (.putfield 55) 3 6 6 0 := rfl
theorem oq_X6_readSign_158 : cw_ho 81 158 (.goto 113) 3 0 0 0 := rfl
theorem oq_X6_readSign_161 : cw_ho 81 161 (.aload_n 0) 1 0 0 0 := rfl
theorem oq_X6_readSign_162 : cw_ho 81 162 (.sipush 20010) 3 0 0 0 := rfl
theorem oq_X6_readSign_165 : cw_ho 81 165 (.putfield 55) 3 6 6 0 := rfl
theorem oq_X6_readSign_168 : cw_ho 81 168 (.goto 103) 3 0 0 0 := rfl
theorem oq_X6_readSign_171 : cw_ho 81 171 (.aload_n 0) 1 0 0 0 := rfl
theorem oq_X6_readSign_172 : cw_ho 81 172 (.sipush 20011) 3 0 0 0 := rfl
theorem oq_X6_readSign_175 : cw_ho 81 175 (.putfield 55) 3 6 6 0 := rfl
theorem oq_X6_readSign_178 : cw_ho 81 178 (.goto 93) 3 0 0 0 := rfl
theorem oq_X6_readSign_181 : cw_ho 81 181 (.aload_n 0) 1 0 0 0 := rfl
theorem oq_X6_readSign_182 : cw_ho 81 182 (.sipush 20012) 3 0 0 0 := rfl
theorem oq_X6_readSign_185 : cw_ho 81 185 (.putfield 55) 3 6 6 0 := rfl
theorem oq_X6_readSign_188 : cw_ho 81 188 (.goto 83) 3 0 0 0 := rfl
theorem oq_X6_readSign_191 : cw_ho 81 191 (.aload_n 0) 1 0 0 0 := rfl
theorem oq_X6_readSign_192 : cw_ho 81 192 (.sipush 20005) 3 0 0 0 := rfl
theorem oq_X6_readSign_195 : cw_ho 81 195 (.putfield 55) 3 6 6 0 := rfl
theorem oq_X6_readSign_198 : cw_ho 81 198 (.goto 73) 3 0 0 0 := rfl
theorem oq_X6_readSign_201 : cw_ho 81 201 (.aload_n 0) 1 0 0 0 := rfl
theorem oq_X6_readSign_202 : cw_ho 81 202 (.aload_n 0) 1 0 0 0 := rfl
theorem oq_X6_readSign_203 : cw_ho 81 203 (.bipush 61) 2 0 0 0 := rfl
theorem oq_X6_readSign_205 : cw_ho 81 205 (.invokevirtual 72) 3 82 1 6 := rfl
theorem oq_X6_readSign_208 : cw_ho 81 208 (.ifCond .eq 9) 3 0 0 0 := rfl
theorem oq_X6_readSign_211 : cw_ho 81 211 (.sipush 20004) 3 0 0 0 := rfl
theorem oq_X6_readSign_214 : cw_ho 81 214 (.goto 21) 3 0 0 0 := rfl
theorem oq_X6_readSign_217 : cw_ho 81 217 (.aload_n 0) 1 0 0 0 := rfl
theorem oq_X6_readSign_218 : cw_ho 81 218 (.bipush 62) 2 0 0 0 := rfl
theorem oq_X6_readSign_220 : cw_ho 81 220 (.invokevirtual 72) 3 82 1 6 := rfl
theorem oq_X6_readSign_223 : cw_ho 81 223 (.ifCond .eq 9) 3 0 0 0 := rfl
theorem oq_X6_readSign_226 : cw_ho 81 226 (.sipush 20006) 3 0 0 0 := rfl
theorem oq_X6_readSign_229 : cw_ho 81 229 (.goto 6) 3 0 0 0 := rfl
theorem oq_X6_readSign_232 : cw_ho 81 232 (.sipush 20003) 3 0 0 0 := rfl
theorem oq_X6_readSign_235 : cw_ho 81 235 (.putfield 55) 3 6 6 0 := rfl
theorem oq_X6_readSign_238 : cw_ho 81 238 (.goto 33) 3 0 0 0 := rfl
theorem oq_X6_readSign_241 : cw_ho 81 241 (.aload_n 0) 1 0 0 0 := rfl
theorem oq_X6_readSign_242 : cw_ho 81 242 (.aload_n 0) 1 0 0 0 := rfl
theorem oq_X6_readSign_243 : cw_ho 81 243 (.bipush 61) 2 0 0 0 := rfl
theorem oq_X6_readSign_245 : cw_ho 81 245 (.invokevirtual 72) 3 82 1 6 := rfl
theorem oq_X6_readSign_248 : cw_ho 81 248 (.ifCond .eq 9) 3 0 0 0 := rfl
theorem oq_X6_readSign_251 : cw_ho 81 251 (.sipush 20007) 3 0 0 0 := rfl
theorem oq_X6_readSign_254 : cw_ho 81 254 (.goto 6) 3 0 0 0 := rfl
theorem oq_X6_readSign_257 : cw_ho 81 257 (.sipush 20008) 3 0 0 0 := rfl
theorem oq_X6_readSign_260 : cw_ho 81 260 (.putfield 55) 3 6 6 0 := rfl
theorem oq_X6_readSign_263 : cw_ho 81 263 (.goto 8) 3 0 0 0 := rfl
theorem oq_X6_readSign_266 : cw_ho 81 266 (.aload_n 0) 1 0 0 0 := rfl
theorem oq_X6_readSign_267 : cw_ho 81 267 (.iconst 1) 1 0 0 0 := rfl
theorem oq_X6_readSign_268 : cw_ho 81 268 (.putfield 58) 3 6 4 0 := rfl
theorem oq_X6_readSign_271 : cw_ho 81 271 (.return_) 1 0 0 0 := rfl
theorem ct_readSign {h0 : cv_H} {n a : Nat} (ht : ∀ i, t i = ri_at h0 1 i % 256) (hT : cw_T G h0) (hn9 : n ≤ 900) (han : a < n) (hl : ri_at h0 51 2 = n) (hat : ri_at h0 51 3 = a) (c : Int32) (hc : -128 ≤ c.toInt ∧ c.toInt ≤ 127) (hta : t a = c.toInt % 256) (hQ : ∀ h', cw_T G h' → cw_Fr cw_Ds cw_sh kk_X6_readSign.2.2.2.2.2.1 h0 h' → ri_at h' 51 2 = n → ri_at h' 51 5 = ri_at h0 51 5 → ri_at h' 51 3 = (tz_s t n a).2.2 → tz_rel (tz_s t n a).1 (tz_s t n a).2.1 (ri_at h' 51 4) (ri_at h' 51 6) → Q (none, h')) : cw_X X 81 Q 0 (cv_ent 0 [cv_r 51, cv_i c]) [] h0 := by
  have Fh0 : cw_Fr cw_Ds cw_sh kk_X6_readSign.2.2.2.2.2.1 h0 h0 := cw_Fr_refl
  have hA : ∀ h, cw_Fr cw_Ds cw_sh kk_X6_readSign.2.2.2.2.2.1 h0 h → ∀ i, ri_at h 1 i = ri_at h0 1 i := fun h F i => ri_frr F (k := 1) (d := 13) rfl rfl (by decide +kernel)
  refine ex_al oq_X6_readSign_0 rfl ?_
  refine ex_dup oq_X6_readSign_1 rfl ?_
  obtain ⟨x401, ax401, rx401, lx401, ux401⟩ := ri_fld (k := 51) (d := 6) (f := 3) hT rfl rfl rfl
  try dsimp only at lx401 ux401
  refine ex_gf oq_X6_readSign_2 hT (k := 51) (d := 6) rfl rfl ax401 ?_
  refine ex_ic oq_X6_readSign_5 (m := 1) (by decide) (fun x402 hx402 => ?_)
  refine ex_add oq_X6_readSign_6 (by omega) (fun x403 hx403 => ?_)
  refine ex_pfi oq_X6_readSign_7 hT (k := 51) (d := 6) rfl rfl rfl (by omega) (by omega) (fun h404 Th404 wh404 => ?_)
  have Fh404 : cw_Fr cw_Ds cw_sh kk_X6_readSign.2.2.2.2.2.1 h0 h404 := cw_Fr_tr Fh0 (cw_Fr_wrf wh404 (k := 51) (d := 6) rfl rfl (by decide +kernel))
  have eh404_51_2 : ri_at h404 51 2 = ri_at h0 51 2 := ri_ne wh404 (by decide)
  have eh404_51_3 : ri_at h404 51 3 = x403.toInt := ri_self wh404
  have eh404_51_4 : ri_at h404 51 4 = ri_at h0 51 4 := ri_ne wh404 (by decide)
  have eh404_51_5 : ri_at h404 51 5 = ri_at h0 51 5 := ri_ne wh404 (by decide)
  have eh404_51_6 : ri_at h404 51 6 = ri_at h0 51 6 := ri_ne wh404 (by decide)
  refine ex_al oq_X6_readSign_10 rfl ?_
  refine ex_ic oq_X6_readSign_11 (m := 5) (by decide) (fun x405 hx405 => ?_)
  refine ex_pfi oq_X6_readSign_12 Th404 (k := 51) (d := 6) rfl rfl rfl (cw_i32 _).1 (cw_i32 _).2 (fun h406 Th406 wh406 => ?_)
  have Fh406 : cw_Fr cw_Ds cw_sh kk_X6_readSign.2.2.2.2.2.1 h0 h406 := cw_Fr_tr Fh404 (cw_Fr_wrf wh406 (k := 51) (d := 6) rfl rfl (by decide +kernel))
  have eh406_51_2 : ri_at h406 51 2 = ri_at h404 51 2 := ri_ne wh406 (by decide)
  have eh406_51_3 : ri_at h406 51 3 = ri_at h404 51 3 := ri_ne wh406 (by decide)
  have eh406_51_4 : ri_at h406 51 4 = x405.toInt := ri_self wh406
  have eh406_51_5 : ri_at h406 51 5 = ri_at h404 51 5 := ri_ne wh406 (by decide)
  have eh406_51_6 : ri_at h406 51 6 = ri_at h404 51 6 := ri_ne wh406 (by decide)
  refine ex_il oq_X6_readSign_15 rfl ?_
  refine ex_tsw oq_X6_readSign_16 rfl (fun c407 => ⟨rfl, ?_⟩) (fun i hi c407 => ?_)
  · show cw_X _ _ _ 266 _ _ _
    refine ex_al oq_X6_readSign_266 rfl ?_
    refine ex_ic oq_X6_readSign_267 (m := 1) (by decide) (fun x408 hx408 => ?_)
    refine ex_pfi oq_X6_readSign_268 Th406 (k := 51) (d := 6) rfl rfl rfl (cw_i32 _).1 (cw_i32 _).2 (fun h409 Th409 wh409 => ?_)
    have Fh409 : cw_Fr cw_Ds cw_sh kk_X6_readSign.2.2.2.2.2.1 h0 h409 := cw_Fr_tr Fh406 (cw_Fr_wrf wh409 (k := 51) (d := 6) rfl rfl (by decide +kernel))
    have eh409_51_2 : ri_at h409 51 2 = ri_at h406 51 2 := ri_ne wh409 (by decide)
    have eh409_51_3 : ri_at h409 51 3 = ri_at h406 51 3 := ri_ne wh409 (by decide)
    have eh409_51_4 : ri_at h409 51 4 = x408.toInt := ri_self wh409
    have eh409_51_5 : ri_at h409 51 5 = ri_at h406 51 5 := ri_ne wh409 (by decide)
    have eh409_51_6 : ri_at h409 51 6 = ri_at h406 51 6 := ri_ne wh409 (by decide)
    exact ex_retv oq_X6_readSign_271 rfl (hQ h409 Th409 Fh409 (by omega) (by omega) (by rw [tz_s8 (by omega) (by omega) (by omega) (by omega)]; dsimp only; omega) (by rw [tz_s8 (by omega) (by omega) (by omega) (by omega)]; dsimp only; exact tz_r6 (by omega)))
  · match i, hi, c407 with
    | 0, _, c407 =>
      refine ⟨rfl, ?_⟩
      show cw_X _ _ _ 133 _ _ _
      refine ex_al oq_X6_readSign_133 rfl ?_
      refine ex_bi oq_X6_readSign_134 (m := 6) (by decide) (fun x410 hx410 => ?_)
      refine ex_pfi oq_X6_readSign_136 Th406 (k := 51) (d := 6) rfl rfl rfl (cw_i32 _).1 (cw_i32 _).2 (fun h411 Th411 wh411 => ?_)
      have Fh411 : cw_Fr cw_Ds cw_sh kk_X6_readSign.2.2.2.2.2.1 h0 h411 := cw_Fr_tr Fh406 (cw_Fr_wrf wh411 (k := 51) (d := 6) rfl rfl (by decide +kernel))
      have eh411_51_2 : ri_at h411 51 2 = ri_at h406 51 2 := ri_ne wh411 (by decide)
      have eh411_51_3 : ri_at h411 51 3 = ri_at h406 51 3 := ri_ne wh411 (by decide)
      have eh411_51_4 : ri_at h411 51 4 = x410.toInt := ri_self wh411
      have eh411_51_5 : ri_at h411 51 5 = ri_at h406 51 5 := ri_ne wh411 (by decide)
      have eh411_51_6 : ri_at h411 51 6 = ri_at h406 51 6 := ri_ne wh411 (by decide)
      refine ex_go oq_X6_readSign_139 (t := 271) rfl rfl ?_
      exact ex_retv oq_X6_readSign_271 rfl (hQ h411 Th411 Fh411 (by omega) (by omega) (by rw [tz_s7 (by omega)]; dsimp only; omega) (by rw [tz_s7 (by omega)]; dsimp only; exact tz_r4b (by omega) (by omega)))
    | 1, _, c407 =>
      refine ⟨rfl, ?_⟩
      show cw_X _ _ _ 142 _ _ _
      refine ex_al oq_X6_readSign_142 rfl ?_
      refine ex_bi oq_X6_readSign_143 (m := 7) (by decide) (fun x412 hx412 => ?_)
      refine ex_pfi oq_X6_readSign_145 Th406 (k := 51) (d := 6) rfl rfl rfl (cw_i32 _).1 (cw_i32 _).2 (fun h413 Th413 wh413 => ?_)
      have Fh413 : cw_Fr cw_Ds cw_sh kk_X6_readSign.2.2.2.2.2.1 h0 h413 := cw_Fr_tr Fh406 (cw_Fr_wrf wh413 (k := 51) (d := 6) rfl rfl (by decide +kernel))
      have eh413_51_2 : ri_at h413 51 2 = ri_at h406 51 2 := ri_ne wh413 (by decide)
      have eh413_51_3 : ri_at h413 51 3 = ri_at h406 51 3 := ri_ne wh413 (by decide)
      have eh413_51_4 : ri_at h413 51 4 = x412.toInt := ri_self wh413
      have eh413_51_5 : ri_at h413 51 5 = ri_at h406 51 5 := ri_ne wh413 (by decide)
      have eh413_51_6 : ri_at h413 51 6 = ri_at h406 51 6 := ri_ne wh413 (by decide)
      refine ex_go oq_X6_readSign_148 (t := 271) rfl rfl ?_
      exact ex_retv oq_X6_readSign_271 rfl (hQ h413 Th413 Fh413 (by omega) (by omega) (by rw [tz_s7 (by omega)]; dsimp only; omega) (by rw [tz_s7 (by omega)]; dsimp only; exact tz_r4c (by omega) (by omega)))
    | 2, _, c407 =>
      refine ⟨rfl, ?_⟩
      show cw_X _ _ _ 171 _ _ _
      refine ex_al oq_X6_readSign_171 rfl ?_
      refine ex_si oq_X6_readSign_172 (m := 20011) (by decide) (fun x414 hx414 => ?_)
      refine ex_pfi oq_X6_readSign_175 Th406 (k := 51) (d := 6) rfl rfl rfl (cw_i32 _).1 (cw_i32 _).2 (fun h415 Th415 wh415 => ?_)
      have Fh415 : cw_Fr cw_Ds cw_sh kk_X6_readSign.2.2.2.2.2.1 h0 h415 := cw_Fr_tr Fh406 (cw_Fr_wrf wh415 (k := 51) (d := 6) rfl rfl (by decide +kernel))
      have eh415_51_2 : ri_at h415 51 2 = ri_at h406 51 2 := ri_ne wh415 (by decide)
      have eh415_51_3 : ri_at h415 51 3 = ri_at h406 51 3 := ri_ne wh415 (by decide)
      have eh415_51_4 : ri_at h415 51 4 = ri_at h406 51 4 := ri_ne wh415 (by decide)
      have eh415_51_5 : ri_at h415 51 5 = ri_at h406 51 5 := ri_ne wh415 (by decide)
      have eh415_51_6 : ri_at h415 51 6 = x414.toInt := ri_self wh415
      refine ex_go oq_X6_readSign_178 (t := 271) rfl rfl ?_
      exact ex_retv oq_X6_readSign_271 rfl (hQ h415 Th415 Fh415 (by omega) (by omega) (by rw [tz_s7 (by omega)]; dsimp only; omega) (by rw [tz_s7 (by omega)]; dsimp only; exact tz_r4f (by omega) (by omega) (by omega)))
    | 3, _, c407 =>
      refine ⟨rfl, ?_⟩
      show cw_X _ _ _ 151 _ _ _
      refine ex_al oq_X6_readSign_151 rfl ?_
      refine ex_si oq_X6_readSign_152 (m := 20009) (by decide) (fun x416 hx416 => ?_)
      refine ex_pfi oq_X6_readSign_155 Th406 (k := 51) (d := 6) rfl rfl rfl (cw_i32 _).1 (cw_i32 _).2 (fun h417 Th417 wh417 => ?_)
      have Fh417 : cw_Fr cw_Ds cw_sh kk_X6_readSign.2.2.2.2.2.1 h0 h417 := cw_Fr_tr Fh406 (cw_Fr_wrf wh417 (k := 51) (d := 6) rfl rfl (by decide +kernel))
      have eh417_51_2 : ri_at h417 51 2 = ri_at h406 51 2 := ri_ne wh417 (by decide)
      have eh417_51_3 : ri_at h417 51 3 = ri_at h406 51 3 := ri_ne wh417 (by decide)
      have eh417_51_4 : ri_at h417 51 4 = ri_at h406 51 4 := ri_ne wh417 (by decide)
      have eh417_51_5 : ri_at h417 51 5 = ri_at h406 51 5 := ri_ne wh417 (by decide)
      have eh417_51_6 : ri_at h417 51 6 = x416.toInt := ri_self wh417
      refine ex_go oq_X6_readSign_158 (t := 271) rfl rfl ?_
      exact ex_retv oq_X6_readSign_271 rfl (hQ h417 Th417 Fh417 (by omega) (by omega) (by rw [tz_s7 (by omega)]; dsimp only; omega) (by rw [tz_s7 (by omega)]; dsimp only; exact tz_r4d (by omega) (by omega) (by omega)))
    | 4, _, c407 =>
      refine ⟨rfl, ?_⟩
      show cw_X _ _ _ 266 _ _ _
      refine ex_al oq_X6_readSign_266 rfl ?_
      refine ex_ic oq_X6_readSign_267 (m := 1) (by decide) (fun x418 hx418 => ?_)
      refine ex_pfi oq_X6_readSign_268 Th406 (k := 51) (d := 6) rfl rfl rfl (cw_i32 _).1 (cw_i32 _).2 (fun h419 Th419 wh419 => ?_)
      have Fh419 : cw_Fr cw_Ds cw_sh kk_X6_readSign.2.2.2.2.2.1 h0 h419 := cw_Fr_tr Fh406 (cw_Fr_wrf wh419 (k := 51) (d := 6) rfl rfl (by decide +kernel))
      have eh419_51_2 : ri_at h419 51 2 = ri_at h406 51 2 := ri_ne wh419 (by decide)
      have eh419_51_3 : ri_at h419 51 3 = ri_at h406 51 3 := ri_ne wh419 (by decide)
      have eh419_51_4 : ri_at h419 51 4 = x418.toInt := ri_self wh419
      have eh419_51_5 : ri_at h419 51 5 = ri_at h406 51 5 := ri_ne wh419 (by decide)
      have eh419_51_6 : ri_at h419 51 6 = ri_at h406 51 6 := ri_ne wh419 (by decide)
      exact ex_retv oq_X6_readSign_271 rfl (hQ h419 Th419 Fh419 (by omega) (by omega) (by rw [tz_s8 (by omega) (by omega) (by omega) (by omega)]; dsimp only; omega) (by rw [tz_s8 (by omega) (by omega) (by omega) (by omega)]; dsimp only; exact tz_r6 (by omega)))
    | 5, _, c407 =>
      refine ⟨rfl, ?_⟩
      show cw_X _ _ _ 161 _ _ _
      refine ex_al oq_X6_readSign_161 rfl ?_
      refine ex_si oq_X6_readSign_162 (m := 20010) (by decide) (fun x420 hx420 => ?_)
      refine ex_pfi oq_X6_readSign_165 Th406 (k := 51) (d := 6) rfl rfl rfl (cw_i32 _).1 (cw_i32 _).2 (fun h421 Th421 wh421 => ?_)
      have Fh421 : cw_Fr cw_Ds cw_sh kk_X6_readSign.2.2.2.2.2.1 h0 h421 := cw_Fr_tr Fh406 (cw_Fr_wrf wh421 (k := 51) (d := 6) rfl rfl (by decide +kernel))
      have eh421_51_2 : ri_at h421 51 2 = ri_at h406 51 2 := ri_ne wh421 (by decide)
      have eh421_51_3 : ri_at h421 51 3 = ri_at h406 51 3 := ri_ne wh421 (by decide)
      have eh421_51_4 : ri_at h421 51 4 = ri_at h406 51 4 := ri_ne wh421 (by decide)
      have eh421_51_5 : ri_at h421 51 5 = ri_at h406 51 5 := ri_ne wh421 (by decide)
      have eh421_51_6 : ri_at h421 51 6 = x420.toInt := ri_self wh421
      refine ex_go oq_X6_readSign_168 (t := 271) rfl rfl ?_
      exact ex_retv oq_X6_readSign_271 rfl (hQ h421 Th421 Fh421 (by omega) (by omega) (by rw [tz_s7 (by omega)]; dsimp only; omega) (by rw [tz_s7 (by omega)]; dsimp only; exact tz_r4e (by omega) (by omega) (by omega)))
    | 6, _, c407 =>
      refine ⟨rfl, ?_⟩
      show cw_X _ _ _ 266 _ _ _
      refine ex_al oq_X6_readSign_266 rfl ?_
      refine ex_ic oq_X6_readSign_267 (m := 1) (by decide) (fun x422 hx422 => ?_)
      refine ex_pfi oq_X6_readSign_268 Th406 (k := 51) (d := 6) rfl rfl rfl (cw_i32 _).1 (cw_i32 _).2 (fun h423 Th423 wh423 => ?_)
      have Fh423 : cw_Fr cw_Ds cw_sh kk_X6_readSign.2.2.2.2.2.1 h0 h423 := cw_Fr_tr Fh406 (cw_Fr_wrf wh423 (k := 51) (d := 6) rfl rfl (by decide +kernel))
      have eh423_51_2 : ri_at h423 51 2 = ri_at h406 51 2 := ri_ne wh423 (by decide)
      have eh423_51_3 : ri_at h423 51 3 = ri_at h406 51 3 := ri_ne wh423 (by decide)
      have eh423_51_4 : ri_at h423 51 4 = x422.toInt := ri_self wh423
      have eh423_51_5 : ri_at h423 51 5 = ri_at h406 51 5 := ri_ne wh423 (by decide)
      have eh423_51_6 : ri_at h423 51 6 = ri_at h406 51 6 := ri_ne wh423 (by decide)
      exact ex_retv oq_X6_readSign_271 rfl (hQ h423 Th423 Fh423 (by omega) (by omega) (by rw [tz_s8 (by omega) (by omega) (by omega) (by omega)]; dsimp only; omega) (by rw [tz_s8 (by omega) (by omega) (by omega) (by omega)]; dsimp only; exact tz_r6 (by omega)))
    | 7, _, c407 =>
      refine ⟨rfl, ?_⟩
      show cw_X _ _ _ 181 _ _ _
      refine ex_al oq_X6_readSign_181 rfl ?_
      refine ex_si oq_X6_readSign_182 (m := 20012) (by decide) (fun x424 hx424 => ?_)
      refine ex_pfi oq_X6_readSign_185 Th406 (k := 51) (d := 6) rfl rfl rfl (cw_i32 _).1 (cw_i32 _).2 (fun h425 Th425 wh425 => ?_)
      have Fh425 : cw_Fr cw_Ds cw_sh kk_X6_readSign.2.2.2.2.2.1 h0 h425 := cw_Fr_tr Fh406 (cw_Fr_wrf wh425 (k := 51) (d := 6) rfl rfl (by decide +kernel))
      have eh425_51_2 : ri_at h425 51 2 = ri_at h406 51 2 := ri_ne wh425 (by decide)
      have eh425_51_3 : ri_at h425 51 3 = ri_at h406 51 3 := ri_ne wh425 (by decide)
      have eh425_51_4 : ri_at h425 51 4 = ri_at h406 51 4 := ri_ne wh425 (by decide)
      have eh425_51_5 : ri_at h425 51 5 = ri_at h406 51 5 := ri_ne wh425 (by decide)
      have eh425_51_6 : ri_at h425 51 6 = x424.toInt := ri_self wh425
      refine ex_go oq_X6_readSign_188 (t := 271) rfl rfl ?_
      exact ex_retv oq_X6_readSign_271 rfl (hQ h425 Th425 Fh425 (by omega) (by omega) (by rw [tz_s7 (by omega)]; dsimp only; omega) (by rw [tz_s7 (by omega)]; dsimp only; exact tz_r4g (by omega) (by omega) (by omega)))
    | 8, _, c407 =>
      refine ⟨rfl, ?_⟩
      show cw_X _ _ _ 266 _ _ _
      refine ex_al oq_X6_readSign_266 rfl ?_
      refine ex_ic oq_X6_readSign_267 (m := 1) (by decide) (fun x426 hx426 => ?_)
      refine ex_pfi oq_X6_readSign_268 Th406 (k := 51) (d := 6) rfl rfl rfl (cw_i32 _).1 (cw_i32 _).2 (fun h427 Th427 wh427 => ?_)
      have Fh427 : cw_Fr cw_Ds cw_sh kk_X6_readSign.2.2.2.2.2.1 h0 h427 := cw_Fr_tr Fh406 (cw_Fr_wrf wh427 (k := 51) (d := 6) rfl rfl (by decide +kernel))
      have eh427_51_2 : ri_at h427 51 2 = ri_at h406 51 2 := ri_ne wh427 (by decide)
      have eh427_51_3 : ri_at h427 51 3 = ri_at h406 51 3 := ri_ne wh427 (by decide)
      have eh427_51_4 : ri_at h427 51 4 = x426.toInt := ri_self wh427
      have eh427_51_5 : ri_at h427 51 5 = ri_at h406 51 5 := ri_ne wh427 (by decide)
      have eh427_51_6 : ri_at h427 51 6 = ri_at h406 51 6 := ri_ne wh427 (by decide)
      exact ex_retv oq_X6_readSign_271 rfl (hQ h427 Th427 Fh427 (by omega) (by omega) (by rw [tz_s8 (by omega) (by omega) (by omega) (by omega)]; dsimp only; omega) (by rw [tz_s8 (by omega) (by omega) (by omega) (by omega)]; dsimp only; exact tz_r6 (by omega)))
    | 9, _, c407 =>
      refine ⟨rfl, ?_⟩
      show cw_X _ _ _ 266 _ _ _
      refine ex_al oq_X6_readSign_266 rfl ?_
      refine ex_ic oq_X6_readSign_267 (m := 1) (by decide) (fun x428 hx428 => ?_)
      refine ex_pfi oq_X6_readSign_268 Th406 (k := 51) (d := 6) rfl rfl rfl (cw_i32 _).1 (cw_i32 _).2 (fun h429 Th429 wh429 => ?_)
      have Fh429 : cw_Fr cw_Ds cw_sh kk_X6_readSign.2.2.2.2.2.1 h0 h429 := cw_Fr_tr Fh406 (cw_Fr_wrf wh429 (k := 51) (d := 6) rfl rfl (by decide +kernel))
      have eh429_51_2 : ri_at h429 51 2 = ri_at h406 51 2 := ri_ne wh429 (by decide)
      have eh429_51_3 : ri_at h429 51 3 = ri_at h406 51 3 := ri_ne wh429 (by decide)
      have eh429_51_4 : ri_at h429 51 4 = x428.toInt := ri_self wh429
      have eh429_51_5 : ri_at h429 51 5 = ri_at h406 51 5 := ri_ne wh429 (by decide)
      have eh429_51_6 : ri_at h429 51 6 = ri_at h406 51 6 := ri_ne wh429 (by decide)
      exact ex_retv oq_X6_readSign_271 rfl (hQ h429 Th429 Fh429 (by omega) (by omega) (by rw [tz_s8 (by omega) (by omega) (by omega) (by omega)]; dsimp only; omega) (by rw [tz_s8 (by omega) (by omega) (by omega) (by omega)]; dsimp only; exact tz_r6 (by omega)))
    | 10, _, c407 =>
      refine ⟨rfl, ?_⟩
      show cw_X _ _ _ 266 _ _ _
      refine ex_al oq_X6_readSign_266 rfl ?_
      refine ex_ic oq_X6_readSign_267 (m := 1) (by decide) (fun x430 hx430 => ?_)
      refine ex_pfi oq_X6_readSign_268 Th406 (k := 51) (d := 6) rfl rfl rfl (cw_i32 _).1 (cw_i32 _).2 (fun h431 Th431 wh431 => ?_)
      have Fh431 : cw_Fr cw_Ds cw_sh kk_X6_readSign.2.2.2.2.2.1 h0 h431 := cw_Fr_tr Fh406 (cw_Fr_wrf wh431 (k := 51) (d := 6) rfl rfl (by decide +kernel))
      have eh431_51_2 : ri_at h431 51 2 = ri_at h406 51 2 := ri_ne wh431 (by decide)
      have eh431_51_3 : ri_at h431 51 3 = ri_at h406 51 3 := ri_ne wh431 (by decide)
      have eh431_51_4 : ri_at h431 51 4 = x430.toInt := ri_self wh431
      have eh431_51_5 : ri_at h431 51 5 = ri_at h406 51 5 := ri_ne wh431 (by decide)
      have eh431_51_6 : ri_at h431 51 6 = ri_at h406 51 6 := ri_ne wh431 (by decide)
      exact ex_retv oq_X6_readSign_271 rfl (hQ h431 Th431 Fh431 (by omega) (by omega) (by rw [tz_s8 (by omega) (by omega) (by omega) (by omega)]; dsimp only; omega) (by rw [tz_s8 (by omega) (by omega) (by omega) (by omega)]; dsimp only; exact tz_r6 (by omega)))
    | 11, _, c407 =>
      refine ⟨rfl, ?_⟩
      show cw_X _ _ _ 266 _ _ _
      refine ex_al oq_X6_readSign_266 rfl ?_
      refine ex_ic oq_X6_readSign_267 (m := 1) (by decide) (fun x432 hx432 => ?_)
      refine ex_pfi oq_X6_readSign_268 Th406 (k := 51) (d := 6) rfl rfl rfl (cw_i32 _).1 (cw_i32 _).2 (fun h433 Th433 wh433 => ?_)
      have Fh433 : cw_Fr cw_Ds cw_sh kk_X6_readSign.2.2.2.2.2.1 h0 h433 := cw_Fr_tr Fh406 (cw_Fr_wrf wh433 (k := 51) (d := 6) rfl rfl (by decide +kernel))
      have eh433_51_2 : ri_at h433 51 2 = ri_at h406 51 2 := ri_ne wh433 (by decide)
      have eh433_51_3 : ri_at h433 51 3 = ri_at h406 51 3 := ri_ne wh433 (by decide)
      have eh433_51_4 : ri_at h433 51 4 = x432.toInt := ri_self wh433
      have eh433_51_5 : ri_at h433 51 5 = ri_at h406 51 5 := ri_ne wh433 (by decide)
      have eh433_51_6 : ri_at h433 51 6 = ri_at h406 51 6 := ri_ne wh433 (by decide)
      exact ex_retv oq_X6_readSign_271 rfl (hQ h433 Th433 Fh433 (by omega) (by omega) (by rw [tz_s8 (by omega) (by omega) (by omega) (by omega)]; dsimp only; omega) (by rw [tz_s8 (by omega) (by omega) (by omega) (by omega)]; dsimp only; exact tz_r6 (by omega)))
    | 12, _, c407 =>
      refine ⟨rfl, ?_⟩
      show cw_X _ _ _ 266 _ _ _
      refine ex_al oq_X6_readSign_266 rfl ?_
      refine ex_ic oq_X6_readSign_267 (m := 1) (by decide) (fun x434 hx434 => ?_)
      refine ex_pfi oq_X6_readSign_268 Th406 (k := 51) (d := 6) rfl rfl rfl (cw_i32 _).1 (cw_i32 _).2 (fun h435 Th435 wh435 => ?_)
      have Fh435 : cw_Fr cw_Ds cw_sh kk_X6_readSign.2.2.2.2.2.1 h0 h435 := cw_Fr_tr Fh406 (cw_Fr_wrf wh435 (k := 51) (d := 6) rfl rfl (by decide +kernel))
      have eh435_51_2 : ri_at h435 51 2 = ri_at h406 51 2 := ri_ne wh435 (by decide)
      have eh435_51_3 : ri_at h435 51 3 = ri_at h406 51 3 := ri_ne wh435 (by decide)
      have eh435_51_4 : ri_at h435 51 4 = x434.toInt := ri_self wh435
      have eh435_51_5 : ri_at h435 51 5 = ri_at h406 51 5 := ri_ne wh435 (by decide)
      have eh435_51_6 : ri_at h435 51 6 = ri_at h406 51 6 := ri_ne wh435 (by decide)
      exact ex_retv oq_X6_readSign_271 rfl (hQ h435 Th435 Fh435 (by omega) (by omega) (by rw [tz_s8 (by omega) (by omega) (by omega) (by omega)]; dsimp only; omega) (by rw [tz_s8 (by omega) (by omega) (by omega) (by omega)]; dsimp only; exact tz_r6 (by omega)))
    | 13, _, c407 =>
      refine ⟨rfl, ?_⟩
      show cw_X _ _ _ 266 _ _ _
      refine ex_al oq_X6_readSign_266 rfl ?_
      refine ex_ic oq_X6_readSign_267 (m := 1) (by decide) (fun x436 hx436 => ?_)
      refine ex_pfi oq_X6_readSign_268 Th406 (k := 51) (d := 6) rfl rfl rfl (cw_i32 _).1 (cw_i32 _).2 (fun h437 Th437 wh437 => ?_)
      have Fh437 : cw_Fr cw_Ds cw_sh kk_X6_readSign.2.2.2.2.2.1 h0 h437 := cw_Fr_tr Fh406 (cw_Fr_wrf wh437 (k := 51) (d := 6) rfl rfl (by decide +kernel))
      have eh437_51_2 : ri_at h437 51 2 = ri_at h406 51 2 := ri_ne wh437 (by decide)
      have eh437_51_3 : ri_at h437 51 3 = ri_at h406 51 3 := ri_ne wh437 (by decide)
      have eh437_51_4 : ri_at h437 51 4 = x436.toInt := ri_self wh437
      have eh437_51_5 : ri_at h437 51 5 = ri_at h406 51 5 := ri_ne wh437 (by decide)
      have eh437_51_6 : ri_at h437 51 6 = ri_at h406 51 6 := ri_ne wh437 (by decide)
      exact ex_retv oq_X6_readSign_271 rfl (hQ h437 Th437 Fh437 (by omega) (by omega) (by rw [tz_s8 (by omega) (by omega) (by omega) (by omega)]; dsimp only; omega) (by rw [tz_s8 (by omega) (by omega) (by omega) (by omega)]; dsimp only; exact tz_r6 (by omega)))
    | 14, _, c407 =>
      refine ⟨rfl, ?_⟩
      show cw_X _ _ _ 266 _ _ _
      refine ex_al oq_X6_readSign_266 rfl ?_
      refine ex_ic oq_X6_readSign_267 (m := 1) (by decide) (fun x438 hx438 => ?_)
      refine ex_pfi oq_X6_readSign_268 Th406 (k := 51) (d := 6) rfl rfl rfl (cw_i32 _).1 (cw_i32 _).2 (fun h439 Th439 wh439 => ?_)
      have Fh439 : cw_Fr cw_Ds cw_sh kk_X6_readSign.2.2.2.2.2.1 h0 h439 := cw_Fr_tr Fh406 (cw_Fr_wrf wh439 (k := 51) (d := 6) rfl rfl (by decide +kernel))
      have eh439_51_2 : ri_at h439 51 2 = ri_at h406 51 2 := ri_ne wh439 (by decide)
      have eh439_51_3 : ri_at h439 51 3 = ri_at h406 51 3 := ri_ne wh439 (by decide)
      have eh439_51_4 : ri_at h439 51 4 = x438.toInt := ri_self wh439
      have eh439_51_5 : ri_at h439 51 5 = ri_at h406 51 5 := ri_ne wh439 (by decide)
      have eh439_51_6 : ri_at h439 51 6 = ri_at h406 51 6 := ri_ne wh439 (by decide)
      exact ex_retv oq_X6_readSign_271 rfl (hQ h439 Th439 Fh439 (by omega) (by omega) (by rw [tz_s8 (by omega) (by omega) (by omega) (by omega)]; dsimp only; omega) (by rw [tz_s8 (by omega) (by omega) (by omega) (by omega)]; dsimp only; exact tz_r6 (by omega)))
    | 15, _, c407 =>
      refine ⟨rfl, ?_⟩
      show cw_X _ _ _ 266 _ _ _
      refine ex_al oq_X6_readSign_266 rfl ?_
      refine ex_ic oq_X6_readSign_267 (m := 1) (by decide) (fun x440 hx440 => ?_)
      refine ex_pfi oq_X6_readSign_268 Th406 (k := 51) (d := 6) rfl rfl rfl (cw_i32 _).1 (cw_i32 _).2 (fun h441 Th441 wh441 => ?_)
      have Fh441 : cw_Fr cw_Ds cw_sh kk_X6_readSign.2.2.2.2.2.1 h0 h441 := cw_Fr_tr Fh406 (cw_Fr_wrf wh441 (k := 51) (d := 6) rfl rfl (by decide +kernel))
      have eh441_51_2 : ri_at h441 51 2 = ri_at h406 51 2 := ri_ne wh441 (by decide)
      have eh441_51_3 : ri_at h441 51 3 = ri_at h406 51 3 := ri_ne wh441 (by decide)
      have eh441_51_4 : ri_at h441 51 4 = x440.toInt := ri_self wh441
      have eh441_51_5 : ri_at h441 51 5 = ri_at h406 51 5 := ri_ne wh441 (by decide)
      have eh441_51_6 : ri_at h441 51 6 = ri_at h406 51 6 := ri_ne wh441 (by decide)
      exact ex_retv oq_X6_readSign_271 rfl (hQ h441 Th441 Fh441 (by omega) (by omega) (by rw [tz_s8 (by omega) (by omega) (by omega) (by omega)]; dsimp only; omega) (by rw [tz_s8 (by omega) (by omega) (by omega) (by omega)]; dsimp only; exact tz_r6 (by omega)))
    | 16, _, c407 =>
      refine ⟨rfl, ?_⟩
      show cw_X _ _ _ 266 _ _ _
      refine ex_al oq_X6_readSign_266 rfl ?_
      refine ex_ic oq_X6_readSign_267 (m := 1) (by decide) (fun x442 hx442 => ?_)
      refine ex_pfi oq_X6_readSign_268 Th406 (k := 51) (d := 6) rfl rfl rfl (cw_i32 _).1 (cw_i32 _).2 (fun h443 Th443 wh443 => ?_)
      have Fh443 : cw_Fr cw_Ds cw_sh kk_X6_readSign.2.2.2.2.2.1 h0 h443 := cw_Fr_tr Fh406 (cw_Fr_wrf wh443 (k := 51) (d := 6) rfl rfl (by decide +kernel))
      have eh443_51_2 : ri_at h443 51 2 = ri_at h406 51 2 := ri_ne wh443 (by decide)
      have eh443_51_3 : ri_at h443 51 3 = ri_at h406 51 3 := ri_ne wh443 (by decide)
      have eh443_51_4 : ri_at h443 51 4 = x442.toInt := ri_self wh443
      have eh443_51_5 : ri_at h443 51 5 = ri_at h406 51 5 := ri_ne wh443 (by decide)
      have eh443_51_6 : ri_at h443 51 6 = ri_at h406 51 6 := ri_ne wh443 (by decide)
      exact ex_retv oq_X6_readSign_271 rfl (hQ h443 Th443 Fh443 (by omega) (by omega) (by rw [tz_s8 (by omega) (by omega) (by omega) (by omega)]; dsimp only; omega) (by rw [tz_s8 (by omega) (by omega) (by omega) (by omega)]; dsimp only; exact tz_r6 (by omega)))
    | 17, _, c407 =>
      refine ⟨rfl, ?_⟩
      show cw_X _ _ _ 266 _ _ _
      refine ex_al oq_X6_readSign_266 rfl ?_
      refine ex_ic oq_X6_readSign_267 (m := 1) (by decide) (fun x444 hx444 => ?_)
      refine ex_pfi oq_X6_readSign_268 Th406 (k := 51) (d := 6) rfl rfl rfl (cw_i32 _).1 (cw_i32 _).2 (fun h445 Th445 wh445 => ?_)
      have Fh445 : cw_Fr cw_Ds cw_sh kk_X6_readSign.2.2.2.2.2.1 h0 h445 := cw_Fr_tr Fh406 (cw_Fr_wrf wh445 (k := 51) (d := 6) rfl rfl (by decide +kernel))
      have eh445_51_2 : ri_at h445 51 2 = ri_at h406 51 2 := ri_ne wh445 (by decide)
      have eh445_51_3 : ri_at h445 51 3 = ri_at h406 51 3 := ri_ne wh445 (by decide)
      have eh445_51_4 : ri_at h445 51 4 = x444.toInt := ri_self wh445
      have eh445_51_5 : ri_at h445 51 5 = ri_at h406 51 5 := ri_ne wh445 (by decide)
      have eh445_51_6 : ri_at h445 51 6 = ri_at h406 51 6 := ri_ne wh445 (by decide)
      exact ex_retv oq_X6_readSign_271 rfl (hQ h445 Th445 Fh445 (by omega) (by omega) (by rw [tz_s8 (by omega) (by omega) (by omega) (by omega)]; dsimp only; omega) (by rw [tz_s8 (by omega) (by omega) (by omega) (by omega)]; dsimp only; exact tz_r6 (by omega)))
    | 18, _, c407 =>
      refine ⟨rfl, ?_⟩
      show cw_X _ _ _ 266 _ _ _
      refine ex_al oq_X6_readSign_266 rfl ?_
      refine ex_ic oq_X6_readSign_267 (m := 1) (by decide) (fun x446 hx446 => ?_)
      refine ex_pfi oq_X6_readSign_268 Th406 (k := 51) (d := 6) rfl rfl rfl (cw_i32 _).1 (cw_i32 _).2 (fun h447 Th447 wh447 => ?_)
      have Fh447 : cw_Fr cw_Ds cw_sh kk_X6_readSign.2.2.2.2.2.1 h0 h447 := cw_Fr_tr Fh406 (cw_Fr_wrf wh447 (k := 51) (d := 6) rfl rfl (by decide +kernel))
      have eh447_51_2 : ri_at h447 51 2 = ri_at h406 51 2 := ri_ne wh447 (by decide)
      have eh447_51_3 : ri_at h447 51 3 = ri_at h406 51 3 := ri_ne wh447 (by decide)
      have eh447_51_4 : ri_at h447 51 4 = x446.toInt := ri_self wh447
      have eh447_51_5 : ri_at h447 51 5 = ri_at h406 51 5 := ri_ne wh447 (by decide)
      have eh447_51_6 : ri_at h447 51 6 = ri_at h406 51 6 := ri_ne wh447 (by decide)
      exact ex_retv oq_X6_readSign_271 rfl (hQ h447 Th447 Fh447 (by omega) (by omega) (by rw [tz_s8 (by omega) (by omega) (by omega) (by omega)]; dsimp only; omega) (by rw [tz_s8 (by omega) (by omega) (by omega) (by omega)]; dsimp only; exact tz_r6 (by omega)))
    | 19, _, c407 =>
      refine ⟨rfl, ?_⟩
      show cw_X _ _ _ 124 _ _ _
      refine ex_al oq_X6_readSign_124 rfl ?_
      refine ex_bi oq_X6_readSign_125 (m := 8) (by decide) (fun x448 hx448 => ?_)
      refine ex_pfi oq_X6_readSign_127 Th406 (k := 51) (d := 6) rfl rfl rfl (cw_i32 _).1 (cw_i32 _).2 (fun h449 Th449 wh449 => ?_)
      have Fh449 : cw_Fr cw_Ds cw_sh kk_X6_readSign.2.2.2.2.2.1 h0 h449 := cw_Fr_tr Fh406 (cw_Fr_wrf wh449 (k := 51) (d := 6) rfl rfl (by decide +kernel))
      have eh449_51_2 : ri_at h449 51 2 = ri_at h406 51 2 := ri_ne wh449 (by decide)
      have eh449_51_3 : ri_at h449 51 3 = ri_at h406 51 3 := ri_ne wh449 (by decide)
      have eh449_51_4 : ri_at h449 51 4 = x448.toInt := ri_self wh449
      have eh449_51_5 : ri_at h449 51 5 = ri_at h406 51 5 := ri_ne wh449 (by decide)
      have eh449_51_6 : ri_at h449 51 6 = ri_at h406 51 6 := ri_ne wh449 (by decide)
      refine ex_go oq_X6_readSign_130 (t := 271) rfl rfl ?_
      exact ex_retv oq_X6_readSign_271 rfl (hQ h449 Th449 Fh449 (by omega) (by omega) (by rw [tz_s7 (by omega)]; dsimp only; omega) (by rw [tz_s7 (by omega)]; dsimp only; exact tz_r4a (by omega) (by omega)))
    | 20, _, c407 =>
      refine ⟨rfl, ?_⟩
      show cw_X _ _ _ 201 _ _ _
      refine ex_al oq_X6_readSign_201 rfl ?_
      refine ex_al oq_X6_readSign_202 rfl ?_
      refine ex_bi oq_X6_readSign_203 (m := 61) (by decide) (fun x450 hx450 => ?_)
      refine ex_cv oq_X6_readSign_205 (by decide) Th406 (k := 51) (d := 6) (as := [cv_i x450]) (stk := [cv_r 51]) rfl rfl rfl rfl rfl rfl ⟨rfl, rfl⟩ (R := fun o => ∃ (x : Int32) (hb : cv_H), o = (some (cv_i x), hb) ∧ cw_T G hb ∧ cw_Fr cw_Ds cw_sh kk_X6_takes.2.2.2.2.2.1 h406 hb ∧ ri_at hb 51 2 = n ∧ ri_at hb 51 4 = ri_at h406 51 4 ∧ ri_at hb 51 5 = ri_at h406 51 5 ∧ ri_at hb 51 6 = ri_at h406 51 6 ∧ ((a + 1 < n ∧ t (a + 1) = x450.toInt) ∧ x.toInt = 1 ∧ ri_at hb 51 3 = ((a + 1 : Nat) : Int) + 1 ∨ ¬ (a + 1 < n ∧ t (a + 1) = x450.toInt) ∧ x.toInt = 0 ∧ ri_at hb 51 3 = ((a + 1 : Nat) : Int))) (ct_takes (t := t) (q := a + 1) (fun i => by rw [ht, ← hA _ Fh406]) Th406 hn9 (by omega) (by omega) x450 (by omega) (fun x hb b1 b2 b3 b4 b5 b6 b7 => ⟨x, hb, rfl, b1, b2, b3, b4, b5, b6, b7⟩)) (fun o ho => ?_)
      obtain ⟨x452, h451, rfl, Th451, Ch451, eh451_51_2, eh451_51_4, eh451_51_5, eh451_51_6, dh451⟩ := ho
      rw [hx450] at dh451
      show cw_X _ _ _ _ _ [cv_i x452, cv_r 51] h451
      have Fh451 : cw_Fr cw_Ds cw_sh kk_X6_readSign.2.2.2.2.2.1 h0 h451 := cw_Fr_tr Fh406 (cw_Fr_mono (by decide +kernel) Ch451)
      refine ex_if0 oq_X6_readSign_208 (t := 217) rfl rfl (fun (c453 : x452.toInt = 0) => ?_) (fun (c453 : ¬ (x452.toInt = 0)) => ?_)
      · refine ex_al oq_X6_readSign_217 rfl ?_
        refine ex_bi oq_X6_readSign_218 (m := 62) (by decide) (fun x454 hx454 => ?_)
        refine ex_cv oq_X6_readSign_220 (by decide) Th451 (k := 51) (d := 6) (as := [cv_i x454]) (stk := [cv_r 51]) rfl rfl rfl rfl rfl rfl ⟨rfl, rfl⟩ (R := fun o => ∃ (x : Int32) (hb : cv_H), o = (some (cv_i x), hb) ∧ cw_T G hb ∧ cw_Fr cw_Ds cw_sh kk_X6_takes.2.2.2.2.2.1 h451 hb ∧ ri_at hb 51 2 = n ∧ ri_at hb 51 4 = ri_at h451 51 4 ∧ ri_at hb 51 5 = ri_at h451 51 5 ∧ ri_at hb 51 6 = ri_at h451 51 6 ∧ ((a + 1 < n ∧ t (a + 1) = x454.toInt) ∧ x.toInt = 1 ∧ ri_at hb 51 3 = ((a + 1 : Nat) : Int) + 1 ∨ ¬ (a + 1 < n ∧ t (a + 1) = x454.toInt) ∧ x.toInt = 0 ∧ ri_at hb 51 3 = ((a + 1 : Nat) : Int))) (ct_takes (t := t) (q := a + 1) (fun i => by rw [ht, ← hA _ Fh451]) Th451 hn9 (by omega) (by omega) x454 (by omega) (fun x hb b1 b2 b3 b4 b5 b6 b7 => ⟨x, hb, rfl, b1, b2, b3, b4, b5, b6, b7⟩)) (fun o ho => ?_)
        obtain ⟨x456, h455, rfl, Th455, Ch455, eh455_51_2, eh455_51_4, eh455_51_5, eh455_51_6, dh455⟩ := ho
        rw [hx454] at dh455
        show cw_X _ _ _ _ _ [cv_i x456, cv_r 51] h455
        have Fh455 : cw_Fr cw_Ds cw_sh kk_X6_readSign.2.2.2.2.2.1 h0 h455 := cw_Fr_tr Fh451 (cw_Fr_mono (by decide +kernel) Ch455)
        refine ex_if0 oq_X6_readSign_223 (t := 232) rfl rfl (fun (c457 : x456.toInt = 0) => ?_) (fun (c457 : ¬ (x456.toInt = 0)) => ?_)
        · refine ex_si oq_X6_readSign_232 (m := 20003) (by decide) (fun x458 hx458 => ?_)
          refine ex_pfi oq_X6_readSign_235 Th455 (k := 51) (d := 6) rfl rfl rfl (cw_i32 _).1 (cw_i32 _).2 (fun h459 Th459 wh459 => ?_)
          have Fh459 : cw_Fr cw_Ds cw_sh kk_X6_readSign.2.2.2.2.2.1 h0 h459 := cw_Fr_tr Fh455 (cw_Fr_wrf wh459 (k := 51) (d := 6) rfl rfl (by decide +kernel))
          have eh459_51_2 : ri_at h459 51 2 = ri_at h455 51 2 := ri_ne wh459 (by decide)
          have eh459_51_3 : ri_at h459 51 3 = ri_at h455 51 3 := ri_ne wh459 (by decide)
          have eh459_51_4 : ri_at h459 51 4 = ri_at h455 51 4 := ri_ne wh459 (by decide)
          have eh459_51_5 : ri_at h459 51 5 = ri_at h455 51 5 := ri_ne wh459 (by decide)
          have eh459_51_6 : ri_at h459 51 6 = x458.toInt := ri_self wh459
          refine ex_go oq_X6_readSign_238 (t := 271) rfl rfl ?_
          exact ex_retv oq_X6_readSign_271 rfl (hQ h459 Th459 Fh459 (by omega) (by omega) (by rw [tz_s4 (by omega) (by omega) (by omega)]; dsimp only; omega) (by rw [tz_s4 (by omega) (by omega) (by omega)]; dsimp only; exact tz_r5 (by omega) (by omega) (by decide) (by decide)))
        · refine ex_si oq_X6_readSign_226 (m := 20006) (by decide) (fun x460 hx460 => ?_)
          refine ex_go oq_X6_readSign_229 (t := 235) rfl rfl ?_
          refine ex_pfi oq_X6_readSign_235 Th455 (k := 51) (d := 6) rfl rfl rfl (cw_i32 _).1 (cw_i32 _).2 (fun h461 Th461 wh461 => ?_)
          have Fh461 : cw_Fr cw_Ds cw_sh kk_X6_readSign.2.2.2.2.2.1 h0 h461 := cw_Fr_tr Fh455 (cw_Fr_wrf wh461 (k := 51) (d := 6) rfl rfl (by decide +kernel))
          have eh461_51_2 : ri_at h461 51 2 = ri_at h455 51 2 := ri_ne wh461 (by decide)
          have eh461_51_3 : ri_at h461 51 3 = ri_at h455 51 3 := ri_ne wh461 (by decide)
          have eh461_51_4 : ri_at h461 51 4 = ri_at h455 51 4 := ri_ne wh461 (by decide)
          have eh461_51_5 : ri_at h461 51 5 = ri_at h455 51 5 := ri_ne wh461 (by decide)
          have eh461_51_6 : ri_at h461 51 6 = x460.toInt := ri_self wh461
          refine ex_go oq_X6_readSign_238 (t := 271) rfl rfl ?_
          exact ex_retv oq_X6_readSign_271 rfl (hQ h461 Th461 Fh461 (by omega) (by omega) (by rw [tz_s3 (by omega) (by omega)]; dsimp only; omega) (by rw [tz_s3 (by omega) (by omega)]; dsimp only; exact tz_r5 (by omega) (by omega) (by decide) (by decide)))
      · refine ex_si oq_X6_readSign_211 (m := 20004) (by decide) (fun x462 hx462 => ?_)
        refine ex_go oq_X6_readSign_214 (t := 235) rfl rfl ?_
        refine ex_pfi oq_X6_readSign_235 Th451 (k := 51) (d := 6) rfl rfl rfl (cw_i32 _).1 (cw_i32 _).2 (fun h463 Th463 wh463 => ?_)
        have Fh463 : cw_Fr cw_Ds cw_sh kk_X6_readSign.2.2.2.2.2.1 h0 h463 := cw_Fr_tr Fh451 (cw_Fr_wrf wh463 (k := 51) (d := 6) rfl rfl (by decide +kernel))
        have eh463_51_2 : ri_at h463 51 2 = ri_at h451 51 2 := ri_ne wh463 (by decide)
        have eh463_51_3 : ri_at h463 51 3 = ri_at h451 51 3 := ri_ne wh463 (by decide)
        have eh463_51_4 : ri_at h463 51 4 = ri_at h451 51 4 := ri_ne wh463 (by decide)
        have eh463_51_5 : ri_at h463 51 5 = ri_at h451 51 5 := ri_ne wh463 (by decide)
        have eh463_51_6 : ri_at h463 51 6 = x462.toInt := ri_self wh463
        refine ex_go oq_X6_readSign_238 (t := 271) rfl rfl ?_
        exact ex_retv oq_X6_readSign_271 rfl (hQ h463 Th463 Fh463 (by omega) (by omega) (by rw [tz_s2 (by omega) (by omega)]; dsimp only; omega) (by rw [tz_s2 (by omega) (by omega)]; dsimp only; exact tz_r5 (by omega) (by omega) (by decide) (by decide)))
    | 21, _, c407 =>
      refine ⟨rfl, ?_⟩
      show cw_X _ _ _ 191 _ _ _
      refine ex_al oq_X6_readSign_191 rfl ?_
      refine ex_si oq_X6_readSign_192 (m := 20005) (by decide) (fun x464 hx464 => ?_)
      refine ex_pfi oq_X6_readSign_195 Th406 (k := 51) (d := 6) rfl rfl rfl (cw_i32 _).1 (cw_i32 _).2 (fun h465 Th465 wh465 => ?_)
      have Fh465 : cw_Fr cw_Ds cw_sh kk_X6_readSign.2.2.2.2.2.1 h0 h465 := cw_Fr_tr Fh406 (cw_Fr_wrf wh465 (k := 51) (d := 6) rfl rfl (by decide +kernel))
      have eh465_51_2 : ri_at h465 51 2 = ri_at h406 51 2 := ri_ne wh465 (by decide)
      have eh465_51_3 : ri_at h465 51 3 = ri_at h406 51 3 := ri_ne wh465 (by decide)
      have eh465_51_4 : ri_at h465 51 4 = ri_at h406 51 4 := ri_ne wh465 (by decide)
      have eh465_51_5 : ri_at h465 51 5 = ri_at h406 51 5 := ri_ne wh465 (by decide)
      have eh465_51_6 : ri_at h465 51 6 = x464.toInt := ri_self wh465
      refine ex_go oq_X6_readSign_198 (t := 271) rfl rfl ?_
      exact ex_retv oq_X6_readSign_271 rfl (hQ h465 Th465 Fh465 (by omega) (by omega) (by rw [tz_s1 (by omega)]; dsimp only; omega) (by rw [tz_s1 (by omega)]; dsimp only; exact tz_r5 (by omega) (by omega) (by decide) (by decide)))
    | 22, _, c407 =>
      refine ⟨rfl, ?_⟩
      show cw_X _ _ _ 241 _ _ _
      refine ex_al oq_X6_readSign_241 rfl ?_
      refine ex_al oq_X6_readSign_242 rfl ?_
      refine ex_bi oq_X6_readSign_243 (m := 61) (by decide) (fun x466 hx466 => ?_)
      refine ex_cv oq_X6_readSign_245 (by decide) Th406 (k := 51) (d := 6) (as := [cv_i x466]) (stk := [cv_r 51]) rfl rfl rfl rfl rfl rfl ⟨rfl, rfl⟩ (R := fun o => ∃ (x : Int32) (hb : cv_H), o = (some (cv_i x), hb) ∧ cw_T G hb ∧ cw_Fr cw_Ds cw_sh kk_X6_takes.2.2.2.2.2.1 h406 hb ∧ ri_at hb 51 2 = n ∧ ri_at hb 51 4 = ri_at h406 51 4 ∧ ri_at hb 51 5 = ri_at h406 51 5 ∧ ri_at hb 51 6 = ri_at h406 51 6 ∧ ((a + 1 < n ∧ t (a + 1) = x466.toInt) ∧ x.toInt = 1 ∧ ri_at hb 51 3 = ((a + 1 : Nat) : Int) + 1 ∨ ¬ (a + 1 < n ∧ t (a + 1) = x466.toInt) ∧ x.toInt = 0 ∧ ri_at hb 51 3 = ((a + 1 : Nat) : Int))) (ct_takes (t := t) (q := a + 1) (fun i => by rw [ht, ← hA _ Fh406]) Th406 hn9 (by omega) (by omega) x466 (by omega) (fun x hb b1 b2 b3 b4 b5 b6 b7 => ⟨x, hb, rfl, b1, b2, b3, b4, b5, b6, b7⟩)) (fun o ho => ?_)
      obtain ⟨x468, h467, rfl, Th467, Ch467, eh467_51_2, eh467_51_4, eh467_51_5, eh467_51_6, dh467⟩ := ho
      rw [hx466] at dh467
      show cw_X _ _ _ _ _ [cv_i x468, cv_r 51] h467
      have Fh467 : cw_Fr cw_Ds cw_sh kk_X6_readSign.2.2.2.2.2.1 h0 h467 := cw_Fr_tr Fh406 (cw_Fr_mono (by decide +kernel) Ch467)
      refine ex_if0 oq_X6_readSign_248 (t := 257) rfl rfl (fun (c469 : x468.toInt = 0) => ?_) (fun (c469 : ¬ (x468.toInt = 0)) => ?_)
      · refine ex_si oq_X6_readSign_257 (m := 20008) (by decide) (fun x470 hx470 => ?_)
        refine ex_pfi oq_X6_readSign_260 Th467 (k := 51) (d := 6) rfl rfl rfl (cw_i32 _).1 (cw_i32 _).2 (fun h471 Th471 wh471 => ?_)
        have Fh471 : cw_Fr cw_Ds cw_sh kk_X6_readSign.2.2.2.2.2.1 h0 h471 := cw_Fr_tr Fh467 (cw_Fr_wrf wh471 (k := 51) (d := 6) rfl rfl (by decide +kernel))
        have eh471_51_2 : ri_at h471 51 2 = ri_at h467 51 2 := ri_ne wh471 (by decide)
        have eh471_51_3 : ri_at h471 51 3 = ri_at h467 51 3 := ri_ne wh471 (by decide)
        have eh471_51_4 : ri_at h471 51 4 = ri_at h467 51 4 := ri_ne wh471 (by decide)
        have eh471_51_5 : ri_at h471 51 5 = ri_at h467 51 5 := ri_ne wh471 (by decide)
        have eh471_51_6 : ri_at h471 51 6 = x470.toInt := ri_self wh471
        refine ex_go oq_X6_readSign_263 (t := 271) rfl rfl ?_
        exact ex_retv oq_X6_readSign_271 rfl (hQ h471 Th471 Fh471 (by omega) (by omega) (by rw [tz_s6 (by omega) (by omega)]; dsimp only; omega) (by rw [tz_s6 (by omega) (by omega)]; dsimp only; exact tz_r5 (by omega) (by omega) (by decide) (by decide)))
      · refine ex_si oq_X6_readSign_251 (m := 20007) (by decide) (fun x472 hx472 => ?_)
        refine ex_go oq_X6_readSign_254 (t := 260) rfl rfl ?_
        refine ex_pfi oq_X6_readSign_260 Th467 (k := 51) (d := 6) rfl rfl rfl (cw_i32 _).1 (cw_i32 _).2 (fun h473 Th473 wh473 => ?_)
        have Fh473 : cw_Fr cw_Ds cw_sh kk_X6_readSign.2.2.2.2.2.1 h0 h473 := cw_Fr_tr Fh467 (cw_Fr_wrf wh473 (k := 51) (d := 6) rfl rfl (by decide +kernel))
        have eh473_51_2 : ri_at h473 51 2 = ri_at h467 51 2 := ri_ne wh473 (by decide)
        have eh473_51_3 : ri_at h473 51 3 = ri_at h467 51 3 := ri_ne wh473 (by decide)
        have eh473_51_4 : ri_at h473 51 4 = ri_at h467 51 4 := ri_ne wh473 (by decide)
        have eh473_51_5 : ri_at h473 51 5 = ri_at h467 51 5 := ri_ne wh473 (by decide)
        have eh473_51_6 : ri_at h473 51 6 = x472.toInt := ri_self wh473
        refine ex_go oq_X6_readSign_263 (t := 271) rfl rfl ?_
        exact ex_retv oq_X6_readSign_271 rfl (hQ h473 Th473 Fh473 (by omega) (by omega) (by rw [tz_s5 (by omega) (by omega)]; dsimp only; omega) (by rw [tz_s5 (by omega) (by omega)]; dsimp only; exact tz_r5 (by omega) (by omega) (by decide) (by decide)))
    | i + 23, hi, _ => exact absurd hi (by show ¬ i + 23 < 23; omega)
end TZ
