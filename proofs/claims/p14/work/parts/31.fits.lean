section
/-! ===== methods walked by hand: odds ===== -/
def ob_t (b : Int32) (j : Nat) : Prop := (b >>> (Int32.ofNat j &&& 31)) &&& 1 = 1
theorem ob_all : ∀ n, n < 128 → ∀ m, m < 7 → 0 < n → n < 2 ^ (m + 1) → ∃ k, k < m + 1 ∧ (Int32.ofNat n >>> (Int32.ofNat k &&& 31)) &&& 1 = 1 := by decide +kernel
theorem ob_or : ∀ n, n < 128 → ∀ c, c < 7 → n < 2 ^ c → (Int32.ofNat n ||| ((1 : Int32) <<< (Int32.ofNat c &&& 31))).toInt = n + 2 ^ c := by decide +kernel
theorem ob_nat {b : Int32} {n : Nat} (h : b.toInt = n) (hn : n ≤ 10000) : b = Int32.ofNat n := Int32.toInt_inj.mp (by rw [h, cw_ofNat hn])
theorem ob_c1 {c : Int32} (h : c.toInt = 1) : c = 1 := Int32.toInt_inj.mp (by rw [h]; rfl)
theorem ob_c0 {c : Int32} (h : c.toInt = 0) : c = 0 := Int32.toInt_inj.mp (by rw [h]; rfl)
section SPL
variable {G : Int} {X : cv_X} {Q : cv_O → Prop}
theorem sp_isOfE {h : cv_H} (b k : Int32) (kn : Nat) (hk : k = Int32.ofNat kn) (hQ : ∀ x : Int32, (x.toInt = 1 ∧ ob_t b kn ∨ x.toInt = 0 ∧ ¬ ob_t b kn) → Q (some (cv_i x), h)) : cw_X X 157 Q 0 (cv_ent 0 [cv_i b, cv_i k]) [] h := by
  refine ex_il oq_X12_isOf_0 rfl ?_
  refine ex_il oq_X12_isOf_1 rfl ?_
  refine ex_shrE oq_X12_isOf_2 (fun x1 hx1 => ?_)
  refine ex_ic oq_X12_isOf_3 (m := 1) (by decide) (fun x2 hx2 => ?_)
  refine ex_andE oq_X12_isOf_4 (fun x3 hx3 => ?_)
  refine ex_ic oq_X12_isOf_5 (m := 1) (by decide) (fun x4 hx4 => ?_)
  refine ex_if oq_X12_isOf_6 (t := 13) rfl rfl (fun (c5 : ¬ x3.toInt = x4.toInt) => ?_) (fun (c5 : ¬ (¬ x3.toInt = x4.toInt)) => ?_)
  · refine ex_ic oq_X12_isOf_13 (m := 0) (by decide) (fun x6 hx6 => ?_)
    refine ex_retb oq_X12_isOf_14 rfl (by omega) (by omega) (hQ x6 ?_)
    refine .inr ⟨hx6, fun q => c5 ?_⟩
    have e : x3 = 1 := by rw [hx3, hx1, ob_c1 hx2, hk]; exact q
    rw [e, hx4]; rfl
  · refine ex_ic oq_X12_isOf_9 (m := 1) (by decide) (fun x7 hx7 => ?_)
    refine ex_go oq_X12_isOf_10 (t := 14) rfl rfl ?_
    refine ex_retb oq_X12_isOf_14 rfl (by omega) (by omega) (hQ x7 ?_)
    have e : x3.toInt = 1 := by omega
    have e2 := ob_c1 e
    rw [hx3, hx1, ob_c1 hx2, hk] at e2
    exact .inl ⟨hx7, e2⟩
theorem oq_X12_weightOf_0 : cw_ho 249 0 (.iload_n 1) 1 0 0 0 := rfl
theorem oq_X12_weightOf_1 : cw_ho 249 1 (.aload_n 0) 1 0 0 0 := rfl
theorem oq_X12_weightOf_2 : cw_ho 249 2 (.getfield 222) 3 12 14 0 := rfl
theorem oq_X12_weightOf_5 : cw_ho 249 5 (.if_icmp .ge 14) 3 0 0 0 := rfl
theorem oq_X12_weightOf_8 : cw_ho 249 8 (.aload_n 0) 1 0 0 0 := rfl
theorem oq_X12_weightOf_9 : cw_ho 249 9 (.getfield 51) 3 12 31 4 := rfl
theorem oq_X12_weightOf_12 : cw_ho 249 12 (.iconst 3) 1 0 0 0 := rfl
theorem oq_X12_weightOf_13 : cw_ho 249 13 (.iload_n 1) 1 0 0 0 := rfl
theorem oq_X12_weightOf_14 : cw_ho 249 14 (.imul) 1 0 0 0 := rfl
theorem oq_X12_weightOf_15 : cw_ho 249 15 (.iaload) 1 0 0 0 := rfl
theorem oq_X12_weightOf_16 : cw_ho 249 16 (.goto 4) 3 0 0 0 := rfl
theorem oq_X12_weightOf_19 : cw_ho 249 19 (.iconst 1) 1 0 0 0 := rfl
theorem oq_X12_weightOf_20 : cw_ho 249 20 (.ireturn) 1 0 0 0 := rfl
theorem sp_weightOf {h : cv_H} (hT : cw_T G h) (hP : cw_PP G h) (c : Int32) (c0 : 0 ≤ c.toInt) (c1 : c.toInt ≤ 6) (hQ : ∀ x : Int32, 1 ≤ x.toInt → x.toInt ≤ 99 → Q (some (cv_i x), h)) : cw_X X 249 Q 0 (cv_ent 0 [cv_r 111, cv_i c]) [] h := by
  refine ex_il oq_X12_weightOf_0 rfl ?_
  refine ex_al oq_X12_weightOf_1 rfl ?_
  obtain ⟨x1, ax1, rx1, lx1, ux1⟩ := fi_causes hT
  refine ex_gf oq_X12_weightOf_2 hT (k := 111) (d := 12) rfl rfl ax1 ?_
  refine ex_if oq_X12_weightOf_5 (t := 19) rfl rfl (fun (c2 : x1.toInt ≤ c.toInt) => ?_) (fun (c2 : ¬ (x1.toInt ≤ c.toInt)) => ?_)
  · refine ex_ic oq_X12_weightOf_19 (m := 1) (by decide) (fun x3 hx3 => ?_)
    exact ex_reti oq_X12_weightOf_20 rfl (hQ x3 (by omega) (by omega))
  · have hp7 := hP.2.2.2.2.2.2 c.toInt.toNat (by omega) (by omega)
    refine ex_al oq_X12_weightOf_8 rfl ?_
    refine ex_gf oq_X12_weightOf_9 hT (k := 111) (d := 12) rfl rfl (fr_causeHas hT) ?_
    refine ex_ic oq_X12_weightOf_12 (m := 3) (by decide) (fun x4 hx4 => ?_)
    refine ex_il oq_X12_weightOf_13 rfl ?_
    refine ex_mul oq_X12_weightOf_14 (m := 3 * c.toInt) (by rw [hx4]) (by omega) (fun x5 hx5 => ?_)
    refine ex_iap oq_X12_weightOf_15 hT (k := 124) (d := 63) (j := 3 * c.toInt.toNat) rfl rfl (by omega) (by omega) (fun x6 hx6 => ?_)
    refine ex_go oq_X12_weightOf_16 (t := 20) rfl rfl ?_
    exact ex_reti oq_X12_weightOf_20 rfl (hQ x6 (by omega) (by omega))
theorem oq_X12_fitting_0 : cw_ho 247 0 (.aload_n 0) 1 0 0 0 := rfl
theorem oq_X12_fitting_1 : cw_ho 247 1 (.invokevirtual 454) 3 242 0 12 := rfl
theorem oq_X12_fitting_4 : cw_ho 247 4 (.iconst 0) 1 0 0 0 := rfl
theorem oq_X12_fitting_5 : cw_ho 247 5 (.istore_n 2) 1 0 0 0 := rfl
theorem oq_X12_fitting_6 : cw_ho 247 6 (.iconst 0) 1 0 0 0 := rfl
theorem oq_X12_fitting_7 : cw_ho 247 7 (.istore_n 3) 1 0 0 0 := rfl
theorem oq_X12_fitting_8 : cw_ho 247 8 (.iload_n 3) 1 0 0 0 := rfl
theorem oq_X12_fitting_9 : cw_ho 247 9 (.aload_n 0) 1 0 0 0 := rfl
theorem oq_X12_fitting_10 : cw_ho 247 10 (.getfield 222) 3 12 14 0 := rfl
theorem oq_X12_fitting_13 : cw_ho 247 13 (.if_icmp .gt 28) 3 0 0 0 := rfl
theorem oq_X12_fitting_16 : cw_ho 247 16 (.iload_n 2) 1 0 0 0 := rfl
theorem oq_X12_fitting_17 : cw_ho 247 17 (.aload_n 0) 1 0 0 0 := rfl
theorem oq_X12_fitting_18 : cw_ho 247 18 (.iload_n 1) 1 0 0 0 := rfl
theorem oq_X12_fitting_19 : cw_ho 247 19 (.iload_n 3) 1 0 0 0 := rfl
theorem oq_X12_fitting_20 : cw_ho 247 20 (.invokevirtual 457) 3 246 2 12 := rfl
theorem oq_X12_fitting_23 : cw_ho 247 23 (.ifCond .eq 9) 3 0 0 0 := rfl
theorem oq_X12_fitting_26 : cw_ho 247 26 (.iconst 1) 1 0 0 0 := rfl
theorem oq_X12_fitting_27 : cw_ho 247 27 (.iload_n 3) 1 0 0 0 := rfl
theorem oq_X12_fitting_28 : cw_ho 247 28 (.ishl) 1 0 0 0 := rfl
theorem oq_X12_fitting_29 : cw_ho 247 29 (.goto 4) 3 0 0 0 := rfl
theorem oq_X12_fitting_32 : cw_ho 247 32 (.iconst 0) 1 0 0 0 := rfl
theorem oq_X12_fitting_33 : cw_ho 247 33 (.ior) 1 0 0 0 := rfl
theorem oq_X12_fitting_34 : cw_ho 247 34 (.istore_n 2) 1 0 0 0 := rfl
theorem oq_X12_fitting_35 : cw_ho 247 35 (.iinc 3 1) 3 0 0 0 := rfl
theorem oq_X12_fitting_38 : cw_ho 247 38 (.goto (-30)) 3 0 0 0 := rfl
theorem oq_X12_fitting_41 : cw_ho 247 41 (.iload_n 2) 1 0 0 0 := rfl
theorem oq_X12_fitting_42 : cw_ho 247 42 (.ireturn) 1 0 0 0 := rfl
theorem ft_8 {h0 : cv_H} (hX : cw_Xok X) (hlc : cw_Holds fk_all mt_all cw_Ds cw_sh G (cw_PP G) kk_X12_layCounts) (hif : cw_Holds fk_all mt_all cw_Ds cw_sh G (cw_PP G) kk_X12_isFit) (hP0 : cw_PP G h0) (g : Int32) (g0 : 0 ≤ g.toInt) (g1 : g.toInt ≤ 3) (g2 : g.toInt < G) (hfin : ∀ (x : Int32) h, cw_T G h → cw_Fr cw_Ds cw_sh kk_X12_fitting.2.2.2.2.2.1 h0 h → 0 ≤ x.toInt → x.toInt < 2 ^ ((ri_at h0 111 14).toNat + 1) → Q (some (cv_i x), h)) : ∀ (N : Nat) (b c : Int32) (h : cv_H), cw_T G h → cw_Fr cw_Ds cw_sh kk_X12_fitting.2.2.2.2.2.1 h0 h → ∀ L : cv_L, cv_get L 0 = some (cv_r 111) → cv_get L 1 = some (cv_i g) → cv_get L 2 = some (cv_i b) → cv_get L 3 = some (cv_i c) → 0 ≤ c.toInt ∧ c.toInt ≤ ri_at h0 111 14 + 1 → ri_at h0 111 14 ≤ 6 → 0 ≤ b.toInt → b.toInt < 2 ^ c.toInt.toNat → (7 - c.toInt).toNat ≤ N → cw_X X 247 Q 8 L [] h := by
  intro N
  induction N with
  | zero =>
    intro b c h Th Fh L q0 q1 q2 q3 c0 ca6 b0 hb hN
    have hca : ri_at h 111 14 = ri_at h0 111 14 := ri_frf Fh (d := 12) rfl rfl (by decide +kernel)
    have hb7 : (2 : Int) ^ c.toInt.toNat ≤ 128 := by
      have e : c.toInt.toNat ≤ 7 := by omega
      have e2 := Nat.pow_le_pow_right (n := 2) (by decide) e
      have e3 : ((2 ^ c.toInt.toNat : Nat) : Int) ≤ ((2 ^ 7 : Nat) : Int) := Int.ofNat_le.mpr e2
      rw [Int.natCast_pow] at e3
      exact e3
    refine ex_il oq_X12_fitting_8 q3 ?_
    refine ex_al oq_X12_fitting_9 q0 ?_
    obtain ⟨x1, ax1, rx1, lx1, ux1⟩ := fi_causes Th
    refine ex_gf oq_X12_fitting_10 Th (k := 111) (d := 12) rfl rfl ax1 ?_
    refine ex_if oq_X12_fitting_13 (t := 41) rfl rfl (fun (c2 : x1.toInt < c.toInt) => ?_) (fun (c2 : ¬ (x1.toInt < c.toInt)) => ?_)
    · refine ex_il oq_X12_fitting_41 q2 ?_
      have ec : c.toInt.toNat = (ri_at h0 111 14).toNat + 1 := by omega
      rw [ec] at hb
      exact ex_reti oq_X12_fitting_42 rfl (hfin b h Th Fh b0 hb)
    · refine ex_il oq_X12_fitting_16 q2 ?_
      refine ex_al oq_X12_fitting_17 q0 ?_
      refine ex_il oq_X12_fitting_18 q1 ?_
      refine ex_il oq_X12_fitting_19 q3 ?_
      have Ph : cw_PP G h := pp_fr0 (by decide +kernel) hP0 Fh
      refine ex_cv oq_X12_fitting_20 (by decide) Th (k := 111) (d := 12) (as := [cv_i g, cv_i c]) (stk := [cv_i b]) rfl rfl rfl rfl rfl rfl ⟨rfl, rfl⟩ (cw_HX hif rfl (cw_Xok_no2 hX) ⟨Th, Ph⟩ ⟨.inl ⟨by decide, 111, rfl, rfl⟩, ⟨_, rfl, by show (0 : Int) ≤ _; omega, by show _ ≤ (3 : Int); omega, cw_tg2 (by omega) (by omega)⟩, ⟨_, rfl, cw_top_ok _⟩, trivial⟩ (fun t ht => absurd ht List.not_mem_nil)) (fun ox4 hox4 => ?_)
      obtain ⟨x4, h3, rfl, rx4, Th3, Ph3, Ch3, tx4⟩ := po_int hox4 rfl
      have lx4 := rx4.1
      have ux4 := rx4.2.1
      try dsimp only at lx4 ux4
      show cw_X _ _ _ _ _ [cv_i x4, cv_i b] h3
      have Fh3 : cw_Fr cw_Ds cw_sh kk_X12_fitting.2.2.2.2.2.1 h0 h3 := cw_Fr_tr Fh (cw_Fr_mono (by decide +kernel) Ch3)
      have eh3_14 : ri_at h3 111 14 = ri_at h 111 14 := ri_frf Ch3 (d := 12) rfl rfl (by decide +kernel)
      refine ex_if0 oq_X12_fitting_23 (t := 32) rfl rfl (fun (c5 : x4.toInt = 0) => ?_) (fun (c5 : ¬ (x4.toInt = 0)) => ?_)
      · refine ex_ic oq_X12_fitting_32 (m := 0) (by decide) (fun x6 hx6 => ?_)
        refine ex_orE oq_X12_fitting_33 (fun x7 hx7 => ?_)
        refine ex_isA oq_X12_fitting_34 (fun L8 gL8_2 kL8 => ?_)
        have gL8_0 : cv_get L8 0 = some (cv_r 111) := kL8 0 _ (by decide) (fun q => absurd q (by decide)) q0
        have gL8_1 : cv_get L8 1 = some (cv_i g) := kL8 1 _ (by decide) (fun _ => rfl) q1
        have gL8_3 : cv_get L8 3 = some (cv_i c) := kL8 3 _ (by decide) (fun q => absurd q (by decide)) q3
        refine ex_incA oq_X12_fitting_35 (v := c) (m := 1) gL8_3 (by decide) (by omega) (fun L10 x9 hx9 gL10_3 kL10 => ?_)
        have gL10_2 : cv_get L10 2 = some (cv_i x7) := kL10 2 _ (by decide) (fun _ => rfl) gL8_2
        have gL10_0 : cv_get L10 0 = some (cv_r 111) := kL10 0 _ (by decide) (fun q => absurd q (by decide)) gL8_0
        have gL10_1 : cv_get L10 1 = some (cv_i g) := kL10 1 _ (by decide) (fun q => absurd q (by decide)) gL8_1
        refine ex_go oq_X12_fitting_38 (t := 8) rfl rfl ?_
        have hp2 : (2 : Int) ^ c.toInt.toNat ≤ 64 := by
          have e : c.toInt.toNat ≤ 6 := by omega
          have e2 := Nat.pow_le_pow_right (n := 2) (by decide) e
          have e3 : ((2 ^ c.toInt.toNat : Nat) : Int) ≤ ((2 ^ 6 : Nat) : Int) := Int.ofNat_le.mpr e2
          rw [Int.natCast_pow] at e3
          exact e3
        have ecn : x9.toInt.toNat = c.toInt.toNat + 1 := by omega
        have hps : (2 : Int) ^ (c.toInt.toNat + 1) = 2 * 2 ^ c.toInt.toNat := by rw [Int.pow_succ, Int.mul_comm]
        have hbn : x7.toInt = b.toInt := by rw [hx7, ob_c0 hx6]; simp
        exfalso; omega -- x7 x9 h3 Th3 Fh3 L10 gL10_0 gL10_1 gL10_2 gL10_3 (by omega) (by omega) (by omega) (by rw [ecn, hps]; omega) (by omega)
      · refine ex_ic oq_X12_fitting_26 (m := 1) (by decide) (fun x11 hx11 => ?_)
        refine ex_il oq_X12_fitting_27 q3 ?_
        refine ex_shlE oq_X12_fitting_28 (fun x12 hx12 => ?_)
        refine ex_go oq_X12_fitting_29 (t := 33) rfl rfl ?_
        refine ex_orE oq_X12_fitting_33 (fun x13 hx13 => ?_)
        refine ex_isA oq_X12_fitting_34 (fun L14 gL14_2 kL14 => ?_)
        have gL14_0 : cv_get L14 0 = some (cv_r 111) := kL14 0 _ (by decide) (fun q => absurd q (by decide)) q0
        have gL14_1 : cv_get L14 1 = some (cv_i g) := kL14 1 _ (by decide) (fun _ => rfl) q1
        have gL14_3 : cv_get L14 3 = some (cv_i c) := kL14 3 _ (by decide) (fun q => absurd q (by decide)) q3
        refine ex_incA oq_X12_fitting_35 (v := c) (m := 1) gL14_3 (by decide) (by omega) (fun L16 x15 hx15 gL16_3 kL16 => ?_)
        have gL16_2 : cv_get L16 2 = some (cv_i x13) := kL16 2 _ (by decide) (fun _ => rfl) gL14_2
        have gL16_0 : cv_get L16 0 = some (cv_r 111) := kL16 0 _ (by decide) (fun q => absurd q (by decide)) gL14_0
        have gL16_1 : cv_get L16 1 = some (cv_i g) := kL16 1 _ (by decide) (fun q => absurd q (by decide)) gL14_1
        refine ex_go oq_X12_fitting_38 (t := 8) rfl rfl ?_
        have hp2 : (2 : Int) ^ c.toInt.toNat ≤ 64 := by
          have e : c.toInt.toNat ≤ 6 := by omega
          have e2 := Nat.pow_le_pow_right (n := 2) (by decide) e
          have e3 : ((2 ^ c.toInt.toNat : Nat) : Int) ≤ ((2 ^ 6 : Nat) : Int) := Int.ofNat_le.mpr e2
          rw [Int.natCast_pow] at e3
          exact e3
        have ecn : x15.toInt.toNat = c.toInt.toNat + 1 := by omega
        have hps : (2 : Int) ^ (c.toInt.toNat + 1) = 2 * 2 ^ c.toInt.toNat := by rw [Int.pow_succ, Int.mul_comm]
        have hbn : 0 ≤ x13.toInt ∧ x13.toInt = b.toInt + 2 ^ c.toInt.toNat := by
          have en : ((b.toInt.toNat : Nat) : Int) < ((2 ^ c.toInt.toNat : Nat) : Int) := by
            rw [Int.natCast_pow]
            show _ < (2 : Int) ^ _
            omega
          have e0 := ob_or b.toInt.toNat (by omega) c.toInt.toNat (by omega) (Int.ofNat_lt.mp en)
          rw [hx13, hx12, ob_c1 hx11, ob_nat (b := b) (n := b.toInt.toNat) (by omega) (by omega), ob_nat (b := c) (n := c.toInt.toNat) (by omega) (by omega)]
          have q1 : (Int32.ofNat b.toInt.toNat).toInt.toNat = b.toInt.toNat := by rw [cw_ofNat (by omega)]; omega
          have q2 : (Int32.ofNat c.toInt.toNat).toInt.toNat = c.toInt.toNat := by rw [cw_ofNat (by omega)]; omega
          have q3 : (Int32.ofNat b.toInt.toNat).toInt = b.toInt.toNat := cw_ofNat (by omega)
          rw [e0, q2, q3]
          have q4 : (0 : Int) ≤ 2 ^ c.toInt.toNat := Int.pow_nonneg (by decide)
          omega
        exfalso; omega -- x13 x15 h3 Th3 Fh3 L16 gL16_0 gL16_1 gL16_2 gL16_3 (by omega) (by omega) (by omega) (by rw [ecn, hps]; omega) (by omega)
  | succ N ih =>
    intro b c h Th Fh L q0 q1 q2 q3 c0 ca6 b0 hb hN
    have hca : ri_at h 111 14 = ri_at h0 111 14 := ri_frf Fh (d := 12) rfl rfl (by decide +kernel)
    have hb7 : (2 : Int) ^ c.toInt.toNat ≤ 128 := by
      have e : c.toInt.toNat ≤ 7 := by omega
      have e2 := Nat.pow_le_pow_right (n := 2) (by decide) e
      have e3 : ((2 ^ c.toInt.toNat : Nat) : Int) ≤ ((2 ^ 7 : Nat) : Int) := Int.ofNat_le.mpr e2
      rw [Int.natCast_pow] at e3
      exact e3
    refine ex_il oq_X12_fitting_8 q3 ?_
    refine ex_al oq_X12_fitting_9 q0 ?_
    obtain ⟨x1, ax1, rx1, lx1, ux1⟩ := fi_causes Th
    refine ex_gf oq_X12_fitting_10 Th (k := 111) (d := 12) rfl rfl ax1 ?_
    refine ex_if oq_X12_fitting_13 (t := 41) rfl rfl (fun (c2 : x1.toInt < c.toInt) => ?_) (fun (c2 : ¬ (x1.toInt < c.toInt)) => ?_)
    · refine ex_il oq_X12_fitting_41 q2 ?_
      have ec : c.toInt.toNat = (ri_at h0 111 14).toNat + 1 := by omega
      rw [ec] at hb
      exact ex_reti oq_X12_fitting_42 rfl (hfin b h Th Fh b0 hb)
    · refine ex_il oq_X12_fitting_16 q2 ?_
      refine ex_al oq_X12_fitting_17 q0 ?_
      refine ex_il oq_X12_fitting_18 q1 ?_
      refine ex_il oq_X12_fitting_19 q3 ?_
      have Ph : cw_PP G h := pp_fr0 (by decide +kernel) hP0 Fh
      refine ex_cv oq_X12_fitting_20 (by decide) Th (k := 111) (d := 12) (as := [cv_i g, cv_i c]) (stk := [cv_i b]) rfl rfl rfl rfl rfl rfl ⟨rfl, rfl⟩ (cw_HX hif rfl (cw_Xok_no2 hX) ⟨Th, Ph⟩ ⟨.inl ⟨by decide, 111, rfl, rfl⟩, ⟨_, rfl, by show (0 : Int) ≤ _; omega, by show _ ≤ (3 : Int); omega, cw_tg2 (by omega) (by omega)⟩, ⟨_, rfl, cw_top_ok _⟩, trivial⟩ (fun t ht => absurd ht List.not_mem_nil)) (fun ox4 hox4 => ?_)
      obtain ⟨x4, h3, rfl, rx4, Th3, Ph3, Ch3, tx4⟩ := po_int hox4 rfl
      have lx4 := rx4.1
      have ux4 := rx4.2.1
      try dsimp only at lx4 ux4
      show cw_X _ _ _ _ _ [cv_i x4, cv_i b] h3
      have Fh3 : cw_Fr cw_Ds cw_sh kk_X12_fitting.2.2.2.2.2.1 h0 h3 := cw_Fr_tr Fh (cw_Fr_mono (by decide +kernel) Ch3)
      have eh3_14 : ri_at h3 111 14 = ri_at h 111 14 := ri_frf Ch3 (d := 12) rfl rfl (by decide +kernel)
      refine ex_if0 oq_X12_fitting_23 (t := 32) rfl rfl (fun (c5 : x4.toInt = 0) => ?_) (fun (c5 : ¬ (x4.toInt = 0)) => ?_)
      · refine ex_ic oq_X12_fitting_32 (m := 0) (by decide) (fun x6 hx6 => ?_)
        refine ex_orE oq_X12_fitting_33 (fun x7 hx7 => ?_)
        refine ex_isA oq_X12_fitting_34 (fun L8 gL8_2 kL8 => ?_)
        have gL8_0 : cv_get L8 0 = some (cv_r 111) := kL8 0 _ (by decide) (fun q => absurd q (by decide)) q0
        have gL8_1 : cv_get L8 1 = some (cv_i g) := kL8 1 _ (by decide) (fun _ => rfl) q1
        have gL8_3 : cv_get L8 3 = some (cv_i c) := kL8 3 _ (by decide) (fun q => absurd q (by decide)) q3
        refine ex_incA oq_X12_fitting_35 (v := c) (m := 1) gL8_3 (by decide) (by omega) (fun L10 x9 hx9 gL10_3 kL10 => ?_)
        have gL10_2 : cv_get L10 2 = some (cv_i x7) := kL10 2 _ (by decide) (fun _ => rfl) gL8_2
        have gL10_0 : cv_get L10 0 = some (cv_r 111) := kL10 0 _ (by decide) (fun q => absurd q (by decide)) gL8_0
        have gL10_1 : cv_get L10 1 = some (cv_i g) := kL10 1 _ (by decide) (fun q => absurd q (by decide)) gL8_1
        refine ex_go oq_X12_fitting_38 (t := 8) rfl rfl ?_
        have hp2 : (2 : Int) ^ c.toInt.toNat ≤ 64 := by
          have e : c.toInt.toNat ≤ 6 := by omega
          have e2 := Nat.pow_le_pow_right (n := 2) (by decide) e
          have e3 : ((2 ^ c.toInt.toNat : Nat) : Int) ≤ ((2 ^ 6 : Nat) : Int) := Int.ofNat_le.mpr e2
          rw [Int.natCast_pow] at e3
          exact e3
        have ecn : x9.toInt.toNat = c.toInt.toNat + 1 := by omega
        have hps : (2 : Int) ^ (c.toInt.toNat + 1) = 2 * 2 ^ c.toInt.toNat := by rw [Int.pow_succ, Int.mul_comm]
        have hbn : x7.toInt = b.toInt := by rw [hx7, ob_c0 hx6]; simp
        exact ih x7 x9 h3 Th3 Fh3 L10 gL10_0 gL10_1 gL10_2 gL10_3 (by omega) (by omega) (by omega) (by rw [ecn, hps]; omega) (by omega)
      · refine ex_ic oq_X12_fitting_26 (m := 1) (by decide) (fun x11 hx11 => ?_)
        refine ex_il oq_X12_fitting_27 q3 ?_
        refine ex_shlE oq_X12_fitting_28 (fun x12 hx12 => ?_)
        refine ex_go oq_X12_fitting_29 (t := 33) rfl rfl ?_
        refine ex_orE oq_X12_fitting_33 (fun x13 hx13 => ?_)
        refine ex_isA oq_X12_fitting_34 (fun L14 gL14_2 kL14 => ?_)
        have gL14_0 : cv_get L14 0 = some (cv_r 111) := kL14 0 _ (by decide) (fun q => absurd q (by decide)) q0
        have gL14_1 : cv_get L14 1 = some (cv_i g) := kL14 1 _ (by decide) (fun _ => rfl) q1
        have gL14_3 : cv_get L14 3 = some (cv_i c) := kL14 3 _ (by decide) (fun q => absurd q (by decide)) q3
        refine ex_incA oq_X12_fitting_35 (v := c) (m := 1) gL14_3 (by decide) (by omega) (fun L16 x15 hx15 gL16_3 kL16 => ?_)
        have gL16_2 : cv_get L16 2 = some (cv_i x13) := kL16 2 _ (by decide) (fun _ => rfl) gL14_2
        have gL16_0 : cv_get L16 0 = some (cv_r 111) := kL16 0 _ (by decide) (fun q => absurd q (by decide)) gL14_0
        have gL16_1 : cv_get L16 1 = some (cv_i g) := kL16 1 _ (by decide) (fun q => absurd q (by decide)) gL14_1
        refine ex_go oq_X12_fitting_38 (t := 8) rfl rfl ?_
        have hp2 : (2 : Int) ^ c.toInt.toNat ≤ 64 := by
          have e : c.toInt.toNat ≤ 6 := by omega
          have e2 := Nat.pow_le_pow_right (n := 2) (by decide) e
          have e3 : ((2 ^ c.toInt.toNat : Nat) : Int) ≤ ((2 ^ 6 : Nat) : Int) := Int.ofNat_le.mpr e2
          rw [Int.natCast_pow] at e3
          exact e3
        have ecn : x15.toInt.toNat = c.toInt.toNat + 1 := by omega
        have hps : (2 : Int) ^ (c.toInt.toNat + 1) = 2 * 2 ^ c.toInt.toNat := by rw [Int.pow_succ, Int.mul_comm]
        have hbn : 0 ≤ x13.toInt ∧ x13.toInt = b.toInt + 2 ^ c.toInt.toNat := by
          have en : ((b.toInt.toNat : Nat) : Int) < ((2 ^ c.toInt.toNat : Nat) : Int) := by
            rw [Int.natCast_pow]
            show _ < (2 : Int) ^ _
            omega
          have e0 := ob_or b.toInt.toNat (by omega) c.toInt.toNat (by omega) (Int.ofNat_lt.mp en)
          rw [hx13, hx12, ob_c1 hx11, ob_nat (b := b) (n := b.toInt.toNat) (by omega) (by omega), ob_nat (b := c) (n := c.toInt.toNat) (by omega) (by omega)]
          have q1 : (Int32.ofNat b.toInt.toNat).toInt.toNat = b.toInt.toNat := by rw [cw_ofNat (by omega)]; omega
          have q2 : (Int32.ofNat c.toInt.toNat).toInt.toNat = c.toInt.toNat := by rw [cw_ofNat (by omega)]; omega
          have q3 : (Int32.ofNat b.toInt.toNat).toInt = b.toInt.toNat := cw_ofNat (by omega)
          rw [e0, q2, q3]
          have q4 : (0 : Int) ≤ 2 ^ c.toInt.toNat := Int.pow_nonneg (by decide)
          omega
        exact ih x13 x15 h3 Th3 Fh3 L16 gL16_0 gL16_1 gL16_2 gL16_3 (by omega) (by omega) (by omega) (by rw [ecn, hps]; omega) (by omega)
theorem sp_fitting {h0 : cv_H} (hX : cw_Xok X) (hlc : cw_Holds fk_all mt_all cw_Ds cw_sh G (cw_PP G) kk_X12_layCounts) (hif : cw_Holds fk_all mt_all cw_Ds cw_sh G (cw_PP G) kk_X12_isFit) (hT : cw_T G h0) (hP : cw_PP G h0) (g : Int32) (g0 : 0 ≤ g.toInt) (g1 : g.toInt ≤ 3) (g2 : g.toInt < G) (hfin : ∀ (x : Int32) h, cw_T G h → cw_Fr cw_Ds cw_sh kk_X12_fitting.2.2.2.2.2.1 h0 h → 0 ≤ x.toInt → x.toInt < 2 ^ ((ri_at h0 111 14).toNat + 1) → Q (some (cv_i x), h)) : cw_X X 247 Q 0 (cv_ent 0 [cv_r 111, cv_i g]) [] h0 := by
  have Fh0 : cw_Fr cw_Ds cw_sh kk_X12_fitting.2.2.2.2.2.1 h0 h0 := cw_Fr_refl
  obtain ⟨_, _, rc0, lc0, uc0⟩ := fi_causes hT
  refine ex_al oq_X12_fitting_0 rfl ?_
  refine ex_cv oq_X12_fitting_1 (by decide) hT (k := 111) (d := 12) (as := []) (stk := []) rfl rfl rfl rfl rfl rfl ⟨rfl, rfl⟩ (cw_HX hlc rfl (cw_Xok_no2 hX) ⟨hT, hP⟩ ⟨.inl ⟨by decide, 111, rfl, rfl⟩, trivial⟩ (fun t ht => absurd ht List.not_mem_nil)) (fun ox502 hox502 => ?_)
  obtain ⟨h501, rfl, Th501, Ph501, Ch501⟩ := po_non hox502 rfl
  show cw_X _ _ _ _ _ [] h501
  have Fh501 : cw_Fr cw_Ds cw_sh kk_X12_fitting.2.2.2.2.2.1 h0 h501 := cw_Fr_tr Fh0 (cw_Fr_mono (by decide +kernel) Ch501)
  have eh501_14 : ri_at h501 111 14 = ri_at h0 111 14 := ri_frf Ch501 (d := 12) rfl rfl (by decide +kernel)
  refine ex_ic oq_X12_fitting_4 (m := 0) (by decide) (fun x503 hx503 => ?_)
  refine ex_isA oq_X12_fitting_5 (fun L504 gL504_2 kL504 => ?_)
  have gL504_0 : cv_get L504 0 = some (cv_r 111) := kL504 0 _ (by decide) (fun q => absurd q (by decide)) rfl
  have gL504_1 : cv_get L504 1 = some (cv_i g) := kL504 1 _ (by decide) (fun _ => rfl) rfl
  refine ex_ic oq_X12_fitting_6 (m := 0) (by decide) (fun x505 hx505 => ?_)
  refine ex_isA oq_X12_fitting_7 (fun L506 gL506_3 kL506 => ?_)
  have gL506_2 : cv_get L506 2 = some (cv_i x503) := kL506 2 _ (by decide) (fun _ => rfl) gL504_2
  have gL506_0 : cv_get L506 0 = some (cv_r 111) := kL506 0 _ (by decide) (fun q => absurd q (by decide)) gL504_0
  have gL506_1 : cv_get L506 1 = some (cv_i g) := kL506 1 _ (by decide) (fun q => absurd q (by decide)) gL504_1
  have e8 : x505.toInt.toNat = 0 := by omega
  exact ft_8 hX hlc hif hP g g0 g1 g2 hfin _ x503 x505 h501 Th501 Fh501 L506 gL506_0 gL506_1 gL506_2 gL506_3 (by omega) (by omega) (by omega) (by rw [e8, hx503]; decide) (Nat.le_refl _)
end SPL
end
section
/-! ===== methods walked by hand: odds, the end ===== -/
section SPM
variable {G : Int} {X : cv_X} {Q : cv_O → Prop}
theorem oq_X12_odds_0 : cw_ho 251 0 (.aload_n 0) 1 0 0 0 := rfl
theorem oq_X12_odds_1 : cw_ho 251 1 (.iconst 0) 1 0 0 0 := rfl
theorem oq_X12_odds_2 : cw_ho 251 2 (.putfield 136) 3 12 2 0 := rfl
theorem oq_X12_odds_5 : cw_ho 251 5 (.aload_n 0) 1 0 0 0 := rfl
theorem oq_X12_odds_6 : cw_ho 251 6 (.iload_n 1) 1 0 0 0 := rfl
theorem oq_X12_odds_7 : cw_ho 251 7 (.invokevirtual 407) 3 216 1 12 := rfl
theorem oq_X12_odds_10 : cw_ho 251 10 (.ifCond .eq 24) 3 0 0 0 := rfl
theorem oq_X12_odds_13 : cw_ho 251 13 (.iload_n 2) 1 0 0 0 := rfl
theorem oq_X12_odds_14 : cw_ho 251 14 (.iconst 0) 1 0 0 0 := rfl
theorem oq_X12_odds_15 : cw_ho 251 15 (.aload_n 0) 1 0 0 0 := rfl
theorem oq_X12_odds_16 : cw_ho 251 16 (.getfield 222) 3 12 14 0 := rfl
theorem oq_X12_odds_19 : cw_ho 251 19 (.invokestatic 180) 3 156 3 0 := rfl
theorem oq_X12_odds_22 : cw_ho 251 22 (.ifCond .eq 12) 3 0 0 0 := rfl
theorem oq_X12_odds_25 : cw_ho 251 25 (.iload_n 3) 1 0 0 0 := rfl
theorem oq_X12_odds_26 : cw_ho 251 26 (.iconst 0) 1 0 0 0 := rfl
theorem oq_X12_odds_27 : cw_ho 251 27 (.iconst 1) 1 0 0 0 := rfl
theorem oq_X12_odds_28 : cw_ho 251 28 (.invokestatic 180) 3 156 3 0 := rfl
theorem oq_X12_odds_31 : cw_ho 251 31 (.ifCond .ne 5) 3 0 0 0 := rfl
theorem oq_X12_odds_34 : cw_ho 251 34 (.iconst (-1)) 1 0 0 0 := rfl
theorem oq_X12_odds_35 : cw_ho 251 35 (.ireturn) 1 0 0 0 := rfl
theorem oq_X12_odds_36 : cw_ho 251 36 (.aload_n 0) 1 0 0 0 := rfl
theorem oq_X12_odds_37 : cw_ho 251 37 (.iload_n 1) 1 0 0 0 := rfl
theorem oq_X12_odds_38 : cw_ho 251 38 (.invokevirtual 460) 3 247 1 12 := rfl
theorem oq_X12_odds_41 : cw_ho 251 41 (.istore 4) 2 0 0 0 := rfl
theorem oq_X12_odds_43 : cw_ho 251 43 (.iload 4) 2 0 0 0 := rfl
theorem oq_X12_odds_45 : cw_ho 251 45 (.ifCond .ne 5) 3 0 0 0 := rfl
theorem oq_X12_odds_48 : cw_ho 251 48 (.iconst 0) 1 0 0 0 := rfl
theorem oq_X12_odds_49 : cw_ho 251 49 (.ireturn) 1 0 0 0 := rfl
theorem oq_X12_odds_50 : cw_ho 251 50 (.iconst 0) 1 0 0 0 := rfl
theorem oq_X12_odds_51 : cw_ho 251 51 (.istore 5) 2 0 0 0 := rfl
theorem oq_X12_odds_53 : cw_ho 251 53 (.iconst 0) 1 0 0 0 := rfl
theorem oq_X12_odds_54 : cw_ho 251 54 (.istore 6) 2 0 0 0 := rfl
theorem oq_X12_odds_56 : cw_ho 251 56 (.iload 6) 2 0 0 0 := rfl
theorem oq_X12_odds_58 : cw_ho 251 58 (.aload_n 0) 1 0 0 0 := rfl
theorem oq_X12_odds_59 : cw_ho 251 59 (.getfield 222) 3 12 14 0 := rfl
theorem oq_X12_odds_62 : cw_ho 251 62 (.if_icmp .gt 34) 3 0 0 0 := rfl
theorem oq_X12_odds_65 : cw_ho 251 65 (.iload 5) 2 0 0 0 := rfl
theorem oq_X12_odds_67 : cw_ho 251 67 (.iload 4) 2 0 0 0 := rfl
theorem oq_X12_odds_69 : cw_ho 251 69 (.iload 6) 2 0 0 0 := rfl
theorem oq_X12_odds_71 : cw_ho 251 71 (.invokestatic 272) 3 157 2 0 := rfl
theorem oq_X12_odds_74 : cw_ho 251 74 (.ifCond .eq 12) 3 0 0 0 := rfl
theorem oq_X12_odds_77 : cw_ho 251 77 (.aload_n 0) 1 0 0 0 := rfl
theorem oq_X12_odds_78 : cw_ho 251 78 (.iload 6) 2 0 0 0 := rfl
theorem oq_X12_odds_80 : cw_ho 251 80 (.invokevirtual 463) 3 249 1 12 := rfl
theorem oq_X12_odds_83 : cw_ho 251 83 (.goto 4) 3 0 0 0 := rfl
theorem oq_X12_odds_86 : cw_ho 251 86 (.iconst 0) 1 0 0 0 := rfl
theorem oq_X12_odds_87 : cw_ho 251 87 (.iadd) 1 0 0 0 := rfl
theorem oq_X12_odds_88 : cw_ho 251 88 (.istore 5) 2 0 0 0 := rfl
theorem oq_X12_odds_90 : cw_ho 251 90 (.iinc 6 1) 3 0 0 0 := rfl
theorem oq_X12_odds_93 : cw_ho 251 93 (.goto (-37)) 3 0 0 0 := rfl
theorem oq_X12_odds_96 : cw_ho 251 96 (.iload 4) 2 0 0 0 := rfl
theorem oq_X12_odds_98 : cw_ho 251 98 (.iload_n 2) 1 0 0 0 := rfl
theorem oq_X12_odds_99 : cw_ho 251 99 (.invokestatic 272) 3 157 2 0 := rfl
theorem oq_X12_odds_102 : cw_ho 251 102 (.ifCond .eq 11) 3 0 0 0 := rfl
theorem oq_X12_odds_105 : cw_ho 251 105 (.aload_n 0) 1 0 0 0 := rfl
theorem oq_X12_odds_106 : cw_ho 251 106 (.iload_n 2) 1 0 0 0 := rfl
theorem oq_X12_odds_107 : cw_ho 251 107 (.invokevirtual 463) 3 249 1 12 := rfl
theorem oq_X12_odds_110 : cw_ho 251 110 (.goto 4) 3 0 0 0 := rfl
theorem oq_X12_odds_113 : cw_ho 251 113 (.iconst 0) 1 0 0 0 := rfl
theorem oq_X12_odds_114 : cw_ho 251 114 (.istore 6) 2 0 0 0 := rfl
theorem oq_X12_odds_116 : cw_ho 251 116 (.iload_n 3) 1 0 0 0 := rfl
theorem oq_X12_odds_117 : cw_ho 251 117 (.ifCond .ne 8) 3 0 0 0 := rfl
theorem oq_X12_odds_120 : cw_ho 251 120 (.iload 6) 2 0 0 0 := rfl
theorem oq_X12_odds_122 : cw_ho 251 122 (.goto 5) 3 0 0 0 := rfl
theorem oq_X12_odds_125 : cw_ho 251 125 (.iload 5) 2 0 0 0 := rfl
theorem oq_X12_odds_127 : cw_ho 251 127 (.iload 6) 2 0 0 0 := rfl
theorem oq_X12_odds_129 : cw_ho 251 129 (.iload 5) 2 0 0 0 := rfl
theorem oq_X12_odds_131 : cw_ho 251 131 (.invokestatic 466) 3 250 2 0 := rfl
theorem oq_X12_odds_134 : cw_ho 251 134 (.idiv) 1 0 0 0 := rfl
theorem oq_X12_odds_135 : cw_ho 251 135 (.ireturn) 1 0 0 0 := rfl
theorem od_56 {h0 : cv_H} (hX : cw_Xok X) (hlc : cw_Holds fk_all mt_all cw_Ds cw_sh G (cw_PP G) kk_X12_layCounts) (hif : cw_Holds fk_all mt_all cw_Ds cw_sh G (cw_PP G) kk_X12_isFit) (hP0 : cw_PP G h0) (g c w b : Int32) (c0 : 0 ≤ c.toInt) (c1 : c.toInt ≤ 6) (b0 : 1 ≤ b.toInt) (b1 : b.toInt < 2 ^ ((ri_at h0 111 14).toNat + 1)) (b7 : b.toInt < 128) (hc6 : 0 ≤ ri_at h0 111 14 ∧ ri_at h0 111 14 ≤ 6) (hfin : ∀ (x : Int32) h, cw_T G h → cw_Fr cw_Ds cw_sh kk_X12_odds.2.2.2.2.2.1 h0 h → Q (some (cv_i x), h)) : ∀ (N : Nat) (al k : Int32) (h : cv_H), cw_T G h → cw_Fr cw_Ds cw_sh kk_X12_odds.2.2.2.2.2.1 h0 h → ∀ L : cv_L, cv_get L 0 = some (cv_r 111) → cv_get L 1 = some (cv_i g) → cv_get L 2 = some (cv_i c) → cv_get L 3 = some (cv_i w) → cv_get L 4 = some (cv_i b) → cv_get L 5 = some (cv_i al) → cv_get L 6 = some (cv_i k) → 0 ≤ k.toInt ∧ k.toInt ≤ 7 → 0 ≤ al.toInt ∧ al.toInt ≤ 99 * k.toInt → (1 ≤ al.toInt ∨ ∀ j : Nat, (j : Int) < k.toInt → ¬ ob_t b j) → (8 - k.toInt).toNat ≤ N → cw_X X 251 Q 56 L [] h := by
  intro N
  induction N with
  | zero =>
    intro al k h Th Fh L q0 q1 q2 q3 q4 q5 q6 k0 a0 hal hN
    exfalso; omega
  | succ N ih =>
    intro al k h Th Fh L q0 q1 q2 q3 q4 q5 q6 k0 a0 hal hN
    have hca : ri_at h 111 14 = ri_at h0 111 14 := ri_frf Fh (d := 12) rfl rfl (by decide +kernel)
    refine ex_ilw oq_X12_odds_56 q6 ?_
    refine ex_al oq_X12_odds_58 q0 ?_
    obtain ⟨x1, ax1, rx1, lx1, ux1⟩ := fi_causes Th
    refine ex_gf oq_X12_odds_59 Th (k := 111) (d := 12) rfl rfl ax1 ?_
    refine ex_if oq_X12_odds_62 (t := 96) rfl rfl (fun (c2 : x1.toInt < k.toInt) => ?_) (fun (c2 : ¬ (x1.toInt < k.toInt)) => ?_)
    · have ha1 : 1 ≤ al.toInt := by
        rcases hal with q | q
        · exact q
        · exfalso
          have hpw : ((b.toInt.toNat : Nat) : Int) < ((2 ^ ((ri_at h0 111 14).toNat + 1) : Nat) : Int) := by
            rw [Int.natCast_pow]
            show _ < (2 : Int) ^ _
            omega
          obtain ⟨j, j1, j2⟩ := ob_all b.toInt.toNat (by omega) (ri_at h0 111 14).toNat (by omega) (by omega) (Int.ofNat_lt.mp hpw)
          refine q j (by omega) ?_
          unfold ob_t
          rw [ob_nat (b := b) (n := b.toInt.toNat) (by omega) (by omega)]
          exact j2
      refine ex_ilw oq_X12_odds_96 q4 ?_
      refine ex_il oq_X12_odds_98 q2 ?_
      refine ex_cs oq_X12_odds_99 (by decide) (as := [cv_i b, cv_i c]) (stk := []) rfl rfl rfl ⟨rfl, rfl⟩ (R := fun o => ∃ x : Int32, o = (some (cv_i x), h) ∧ (x.toInt = 1 ∧ ob_t b c.toInt.toNat ∨ x.toInt = 0 ∧ ¬ ob_t b c.toInt.toNat)) (sp_isOfE b c c.toInt.toNat (ob_nat (by omega) (by omega)) (fun x hx => ⟨x, rfl, hx⟩)) (fun o ho => ?_)
      obtain ⟨x3, rfl, dx3⟩ := ho
      show cw_X _ _ _ _ _ [cv_i x3] h
      have vx3 : x3.toInt = 1 ∨ x3.toInt = 0 := dx3.elim (fun q => .inl q.1) (fun q => .inr q.1)
      refine ex_if0 oq_X12_odds_102 (t := 113) rfl rfl (fun (c4 : x3.toInt = 0) => ?_) (fun (c4 : ¬ (x3.toInt = 0)) => ?_)
      · refine ex_ic oq_X12_odds_113 (m := 0) (by decide) (fun x5 hx5 => ?_)
        refine ex_iswA oq_X12_odds_114 (fun L6 gL6_6 kL6 => ?_)
        have gL6_0 : cv_get L6 0 = some (cv_r 111) := kL6 0 _ (by decide) (fun q => absurd q (by decide)) q0
        have gL6_1 : cv_get L6 1 = some (cv_i g) := kL6 1 _ (by decide) (fun q => absurd q (by decide)) q1
        have gL6_2 : cv_get L6 2 = some (cv_i c) := kL6 2 _ (by decide) (fun q => absurd q (by decide)) q2
        have gL6_3 : cv_get L6 3 = some (cv_i w) := kL6 3 _ (by decide) (fun q => absurd q (by decide)) q3
        have gL6_4 : cv_get L6 4 = some (cv_i b) := kL6 4 _ (by decide) (fun q => absurd q (by decide)) q4
        have gL6_5 : cv_get L6 5 = some (cv_i al) := kL6 5 _ (by decide) (fun _ => rfl) q5
        refine ex_il oq_X12_odds_116 gL6_3 ?_
        refine ex_if0 oq_X12_odds_117 (t := 125) rfl rfl (fun (c7 : ¬ w.toInt = 0) => ?_) (fun (c7 : ¬ (¬ w.toInt = 0)) => ?_)
        · refine ex_ilw oq_X12_odds_125 gL6_5 ?_
          refine ex_ilw oq_X12_odds_127 gL6_6 ?_
          refine ex_ilw oq_X12_odds_129 gL6_5 ?_
          refine ex_cs oq_X12_odds_131 (by decide) (as := [cv_i x5, cv_i al]) (stk := [cv_i al]) rfl rfl rfl ⟨rfl, rfl⟩ (R := fun o => ∃ x : Int32, o = (some (cv_i x), h) ∧ 1 ≤ x.toInt) (sp_common x5 al (by omega) (by omega) (by omega) (fun x hx => ⟨x, rfl, hx⟩)) (fun o ho => ?_)
          obtain ⟨x8, rfl, lx8⟩ := ho
          show cw_X _ _ _ _ _ [cv_i x8, cv_i al] h
          refine ex_div oq_X12_odds_134 (by omega) (by omega) (fun x9 hx9 => ?_)
          exact ex_reti oq_X12_odds_135 rfl (hfin x9 h Th Fh)
        · refine ex_ilw oq_X12_odds_120 gL6_6 ?_
          refine ex_go oq_X12_odds_122 (t := 127) rfl rfl ?_
          refine ex_ilw oq_X12_odds_127 gL6_6 ?_
          refine ex_ilw oq_X12_odds_129 gL6_5 ?_
          refine ex_cs oq_X12_odds_131 (by decide) (as := [cv_i x5, cv_i al]) (stk := [cv_i x5]) rfl rfl rfl ⟨rfl, rfl⟩ (R := fun o => ∃ x : Int32, o = (some (cv_i x), h) ∧ 1 ≤ x.toInt) (sp_common x5 al (by omega) (by omega) (by omega) (fun x hx => ⟨x, rfl, hx⟩)) (fun o ho => ?_)
          obtain ⟨x10, rfl, lx10⟩ := ho
          show cw_X _ _ _ _ _ [cv_i x10, cv_i x5] h
          refine ex_div oq_X12_odds_134 (by omega) (by omega) (fun x11 hx11 => ?_)
          exact ex_reti oq_X12_odds_135 rfl (hfin x11 h Th Fh)
      · refine ex_al oq_X12_odds_105 q0 ?_
        refine ex_il oq_X12_odds_106 q2 ?_
        refine ex_cv oq_X12_odds_107 (by decide) Th (k := 111) (d := 12) (as := [cv_i c]) (stk := []) rfl rfl rfl rfl rfl rfl ⟨rfl, rfl⟩ (R := fun o => ∃ x : Int32, o = (some (cv_i x), h) ∧ 1 ≤ x.toInt ∧ x.toInt ≤ 99) (sp_weightOf Th (pp_fr0 (by decide +kernel) hP0 Fh) c (by omega) (by omega) (fun x x0 x1 => ⟨x, rfl, x0, x1⟩)) (fun o ho => ?_)
        obtain ⟨x12, rfl, lx12, ux12⟩ := ho
        show cw_X _ _ _ _ _ [cv_i x12] h
        refine ex_go oq_X12_odds_110 (t := 114) rfl rfl ?_
        refine ex_iswA oq_X12_odds_114 (fun L13 gL13_6 kL13 => ?_)
        have gL13_0 : cv_get L13 0 = some (cv_r 111) := kL13 0 _ (by decide) (fun q => absurd q (by decide)) q0
        have gL13_1 : cv_get L13 1 = some (cv_i g) := kL13 1 _ (by decide) (fun q => absurd q (by decide)) q1
        have gL13_2 : cv_get L13 2 = some (cv_i c) := kL13 2 _ (by decide) (fun q => absurd q (by decide)) q2
        have gL13_3 : cv_get L13 3 = some (cv_i w) := kL13 3 _ (by decide) (fun q => absurd q (by decide)) q3
        have gL13_4 : cv_get L13 4 = some (cv_i b) := kL13 4 _ (by decide) (fun q => absurd q (by decide)) q4
        have gL13_5 : cv_get L13 5 = some (cv_i al) := kL13 5 _ (by decide) (fun _ => rfl) q5
        refine ex_il oq_X12_odds_116 gL13_3 ?_
        refine ex_if0 oq_X12_odds_117 (t := 125) rfl rfl (fun (c14 : ¬ w.toInt = 0) => ?_) (fun (c14 : ¬ (¬ w.toInt = 0)) => ?_)
        · refine ex_ilw oq_X12_odds_125 gL13_5 ?_
          refine ex_ilw oq_X12_odds_127 gL13_6 ?_
          refine ex_ilw oq_X12_odds_129 gL13_5 ?_
          refine ex_cs oq_X12_odds_131 (by decide) (as := [cv_i x12, cv_i al]) (stk := [cv_i al]) rfl rfl rfl ⟨rfl, rfl⟩ (R := fun o => ∃ x : Int32, o = (some (cv_i x), h) ∧ 1 ≤ x.toInt) (sp_common x12 al (by omega) (by omega) (by omega) (fun x hx => ⟨x, rfl, hx⟩)) (fun o ho => ?_)
          obtain ⟨x15, rfl, lx15⟩ := ho
          show cw_X _ _ _ _ _ [cv_i x15, cv_i al] h
          refine ex_div oq_X12_odds_134 (by omega) (by omega) (fun x16 hx16 => ?_)
          exact ex_reti oq_X12_odds_135 rfl (hfin x16 h Th Fh)
        · refine ex_ilw oq_X12_odds_120 gL13_6 ?_
          refine ex_go oq_X12_odds_122 (t := 127) rfl rfl ?_
          refine ex_ilw oq_X12_odds_127 gL13_6 ?_
          refine ex_ilw oq_X12_odds_129 gL13_5 ?_
          refine ex_cs oq_X12_odds_131 (by decide) (as := [cv_i x12, cv_i al]) (stk := [cv_i x12]) rfl rfl rfl ⟨rfl, rfl⟩ (R := fun o => ∃ x : Int32, o = (some (cv_i x), h) ∧ 1 ≤ x.toInt) (sp_common x12 al (by omega) (by omega) (by omega) (fun x hx => ⟨x, rfl, hx⟩)) (fun o ho => ?_)
          obtain ⟨x17, rfl, lx17⟩ := ho
          show cw_X _ _ _ _ _ [cv_i x17, cv_i x12] h
          refine ex_div oq_X12_odds_134 (by omega) (by omega) (fun x18 hx18 => ?_)
          exact ex_reti oq_X12_odds_135 rfl (hfin x18 h Th Fh)
    · refine ex_ilw oq_X12_odds_65 q5 ?_
      refine ex_ilw oq_X12_odds_67 q4 ?_
      refine ex_ilw oq_X12_odds_69 q6 ?_
      refine ex_cs oq_X12_odds_71 (by decide) (as := [cv_i b, cv_i k]) (stk := [cv_i al]) rfl rfl rfl ⟨rfl, rfl⟩ (R := fun o => ∃ x : Int32, o = (some (cv_i x), h) ∧ (x.toInt = 1 ∧ ob_t b k.toInt.toNat ∨ x.toInt = 0 ∧ ¬ ob_t b k.toInt.toNat)) (sp_isOfE b k k.toInt.toNat (ob_nat (by omega) (by omega)) (fun x hx => ⟨x, rfl, hx⟩)) (fun o ho => ?_)
      obtain ⟨x19, rfl, dx19⟩ := ho
      show cw_X _ _ _ _ _ [cv_i x19, cv_i al] h
      have vx19 : x19.toInt = 1 ∨ x19.toInt = 0 := dx19.elim (fun q => .inl q.1) (fun q => .inr q.1)
      refine ex_if0 oq_X12_odds_74 (t := 86) rfl rfl (fun (c20 : x19.toInt = 0) => ?_) (fun (c20 : ¬ (x19.toInt = 0)) => ?_)
      · refine ex_ic oq_X12_odds_86 (m := 0) (by decide) (fun x21 hx21 => ?_)
        refine ex_add oq_X12_odds_87 (by omega) (fun x22 hx22 => ?_)
        refine ex_iswA oq_X12_odds_88 (fun L23 gL23_5 kL23 => ?_)
        have gL23_0 : cv_get L23 0 = some (cv_r 111) := kL23 0 _ (by decide) (fun q => absurd q (by decide)) q0
        have gL23_1 : cv_get L23 1 = some (cv_i g) := kL23 1 _ (by decide) (fun q => absurd q (by decide)) q1
        have gL23_2 : cv_get L23 2 = some (cv_i c) := kL23 2 _ (by decide) (fun q => absurd q (by decide)) q2
        have gL23_3 : cv_get L23 3 = some (cv_i w) := kL23 3 _ (by decide) (fun q => absurd q (by decide)) q3
        have gL23_4 : cv_get L23 4 = some (cv_i b) := kL23 4 _ (by decide) (fun _ => rfl) q4
        have gL23_6 : cv_get L23 6 = some (cv_i k) := kL23 6 _ (by decide) (fun q => absurd q (by decide)) q6
        refine ex_incA oq_X12_odds_90 (v := k) (m := 1) gL23_6 (by decide) (by omega) (fun L25 x24 hx24 gL25_6 kL25 => ?_)
        have gL25_5 : cv_get L25 5 = some (cv_i x22) := kL25 5 _ (by decide) (fun _ => rfl) gL23_5
        have gL25_0 : cv_get L25 0 = some (cv_r 111) := kL25 0 _ (by decide) (fun q => absurd q (by decide)) gL23_0
        have gL25_1 : cv_get L25 1 = some (cv_i g) := kL25 1 _ (by decide) (fun q => absurd q (by decide)) gL23_1
        have gL25_2 : cv_get L25 2 = some (cv_i c) := kL25 2 _ (by decide) (fun q => absurd q (by decide)) gL23_2
        have gL25_3 : cv_get L25 3 = some (cv_i w) := kL25 3 _ (by decide) (fun q => absurd q (by decide)) gL23_3
        have gL25_4 : cv_get L25 4 = some (cv_i b) := kL25 4 _ (by decide) (fun q => absurd q (by decide)) gL23_4
        refine ex_go oq_X12_odds_93 (t := 56) rfl rfl ?_
        refine ih x22 x24 h Th Fh L25 gL25_0 gL25_1 gL25_2 gL25_3 gL25_4 gL25_5 gL25_6 (by omega) (by omega) ?_ (by omega)
        rcases hal with q | q
        · left; omega
        · rcases dx19 with w | w
          · left; omega
          · right; intro j hj
            by_cases e : j = k.toInt.toNat
            · rw [e]; exact w.2
            · exact q j (by omega)
      · refine ex_al oq_X12_odds_77 q0 ?_
        refine ex_ilw oq_X12_odds_78 q6 ?_
        refine ex_cv oq_X12_odds_80 (by decide) Th (k := 111) (d := 12) (as := [cv_i k]) (stk := [cv_i al]) rfl rfl rfl rfl rfl rfl ⟨rfl, rfl⟩ (R := fun o => ∃ x : Int32, o = (some (cv_i x), h) ∧ 1 ≤ x.toInt ∧ x.toInt ≤ 99) (sp_weightOf Th (pp_fr0 (by decide +kernel) hP0 Fh) k (by omega) (by omega) (fun x x0 x1 => ⟨x, rfl, x0, x1⟩)) (fun o ho => ?_)
        obtain ⟨x26, rfl, lx26, ux26⟩ := ho
        show cw_X _ _ _ _ _ [cv_i x26, cv_i al] h
        refine ex_go oq_X12_odds_83 (t := 87) rfl rfl ?_
        refine ex_add oq_X12_odds_87 (by omega) (fun x27 hx27 => ?_)
        refine ex_iswA oq_X12_odds_88 (fun L28 gL28_5 kL28 => ?_)
        have gL28_0 : cv_get L28 0 = some (cv_r 111) := kL28 0 _ (by decide) (fun q => absurd q (by decide)) q0
        have gL28_1 : cv_get L28 1 = some (cv_i g) := kL28 1 _ (by decide) (fun q => absurd q (by decide)) q1
        have gL28_2 : cv_get L28 2 = some (cv_i c) := kL28 2 _ (by decide) (fun q => absurd q (by decide)) q2
        have gL28_3 : cv_get L28 3 = some (cv_i w) := kL28 3 _ (by decide) (fun q => absurd q (by decide)) q3
        have gL28_4 : cv_get L28 4 = some (cv_i b) := kL28 4 _ (by decide) (fun _ => rfl) q4
        have gL28_6 : cv_get L28 6 = some (cv_i k) := kL28 6 _ (by decide) (fun q => absurd q (by decide)) q6
        refine ex_incA oq_X12_odds_90 (v := k) (m := 1) gL28_6 (by decide) (by omega) (fun L30 x29 hx29 gL30_6 kL30 => ?_)
        have gL30_5 : cv_get L30 5 = some (cv_i x27) := kL30 5 _ (by decide) (fun _ => rfl) gL28_5
        have gL30_0 : cv_get L30 0 = some (cv_r 111) := kL30 0 _ (by decide) (fun q => absurd q (by decide)) gL28_0
        have gL30_1 : cv_get L30 1 = some (cv_i g) := kL30 1 _ (by decide) (fun q => absurd q (by decide)) gL28_1
        have gL30_2 : cv_get L30 2 = some (cv_i c) := kL30 2 _ (by decide) (fun q => absurd q (by decide)) gL28_2
        have gL30_3 : cv_get L30 3 = some (cv_i w) := kL30 3 _ (by decide) (fun q => absurd q (by decide)) gL28_3
        have gL30_4 : cv_get L30 4 = some (cv_i b) := kL30 4 _ (by decide) (fun q => absurd q (by decide)) gL28_4
        refine ex_go oq_X12_odds_93 (t := 56) rfl rfl ?_
        refine ih x27 x29 h Th Fh L30 gL30_0 gL30_1 gL30_2 gL30_3 gL30_4 gL30_5 gL30_6 (by omega) (by omega) ?_ (by omega)
        rcases hal with q | q
        · left; omega
        · rcases dx19 with w | w
          · left; omega
          · right; intro j hj
            by_cases e : j = k.toInt.toNat
            · rw [e]; exact w.2
            · exact q j (by omega)
theorem hk_X12_odds (hlc : cw_Holds fk_all mt_all cw_Ds cw_sh G (cw_PP G) kk_X12_layCounts) (hif : cw_Holds fk_all mt_all cw_Ds cw_sh G (cw_PP G) kk_X12_isFit) : cw_Holds fk_all mt_all cw_Ds cw_sh G (cw_PP G) kk_X12_odds := by
  refine cw_XH fun X h av hX hT hP hg hfp => ?_
  match av, hg with
  | [v0, v1, v2, v3], ⟨h0, ⟨g, e1, rg⟩, ⟨c, e2, rc⟩, ⟨w, e3, rw3⟩, _⟩ =>
  obtain rfl : v0 = cv_r 111 := by
    rcases h0 with ⟨-, k, rfl, hk⟩ | ⟨j, hj, -⟩
    · rw [ri_uniq (d := 12) (k := 111) (by decide +kernel) k hk]
    · omega
  subst e1 e2 e3
  have Fh : cw_Fr cw_Ds cw_sh kk_X12_odds.2.2.2.2.2.1 h h := cw_Fr_refl
  obtain ⟨_, _, rG0, lG0, uG0⟩ := fi_gates hT
  have hG0 := fr_G hT
  obtain ⟨_, _, rC0, lC0, uC0⟩ := fi_causes hT
  refine ex_al oq_X12_odds_0 rfl ?_
  refine ex_ic oq_X12_odds_1 (m := 0) (by decide) (fun x1001 hx1001 => ?_)
  refine ex_pfi oq_X12_odds_2 hT (k := 111) (d := 12) rfl rfl rfl (cw_i32 _).1 (cw_i32 _).2 (fun h1002 Th1002 wh1002 => ?_)
  have Fh1002 : cw_Fr cw_Ds cw_sh kk_X12_odds.2.2.2.2.2.1 h h1002 := cw_Fr_tr Fh (cw_Fr_wrf wh1002 (k := 111) (d := 12) rfl rfl (by decide +kernel))
  have eh1002_14 : ri_at h1002 111 14 = ri_at h 111 14 := ri_ne wh1002 (by decide)
  refine ex_al oq_X12_odds_5 rfl ?_
  refine ex_il oq_X12_odds_6 rfl ?_
  refine ex_cv oq_X12_odds_7 (by decide) Th1002 (k := 111) (d := 12) (as := [cv_i g]) (stk := []) rfl rfl rfl rfl rfl rfl ⟨rfl, rfl⟩ (R := fun o => ∃ x : Int32, o = (some (cv_i x), h1002) ∧ (x.toInt = 1 ∧ 0 ≤ g.toInt ∧ g.toInt < G ∨ x.toInt = 0 ∧ ¬ (0 ≤ g.toInt ∧ g.toInt < G))) (sp_isGate Th1002 g  (fun x hx => ⟨x, rfl, hx⟩)) (fun ox1003 hox1003 => ?_)
  obtain ⟨x1003, rfl, hx1003⟩ := hox1003
  show cw_X _ _ _ _ _ [cv_i x1003] h1002
  refine ex_if0 oq_X12_odds_10 (t := 34) rfl rfl (fun (c1004 : x1003.toInt = 0) => ?_) (fun (c1004 : ¬ (x1003.toInt = 0)) => ?_)
  · refine ex_ic oq_X12_odds_34 (m := (-1)) (by decide) (fun x1005 hx1005 => ?_)
    exact ex_reti oq_X12_odds_35 rfl ⟨⟨_, rfl, cw_top_ok _⟩, ⟨Th1002, pp_fr0 (by decide +kernel) hP Fh1002⟩, Fh1002, fun y hy hy0 => ⟨fun t ht => absurd ht List.not_mem_nil, fun t ht => absurd ht List.not_mem_nil⟩⟩
  · refine ex_il oq_X12_odds_13 rfl ?_
    refine ex_ic oq_X12_odds_14 (m := 0) (by decide) (fun x1006 hx1006 => ?_)
    refine ex_al oq_X12_odds_15 rfl ?_
    obtain ⟨x1007, ax1007, rx1007, lx1007, ux1007⟩ := fi_causes Th1002
    refine ex_gf oq_X12_odds_16 Th1002 (k := 111) (d := 12) rfl rfl ax1007 ?_
    refine ex_cs oq_X12_odds_19 (by decide) (as := [cv_i c, cv_i x1006, cv_i x1007]) (stk := []) rfl rfl rfl ⟨rfl, rfl⟩ (R := fun o => ∃ x : Int32, o = (some (cv_i x), h1002) ∧ (x.toInt = 1 ∧ x1006.toInt ≤ c.toInt ∧ c.toInt ≤ x1007.toInt ∨ x.toInt = 0 ∧ ¬ (x1006.toInt ≤ c.toInt ∧ c.toInt ≤ x1007.toInt))) (sp_isIn Th1002 c x1006 x1007  (fun x hx => ⟨x, rfl, hx⟩)) (fun ox1008 hox1008 => ?_)
    obtain ⟨x1008, rfl, hx1008⟩ := hox1008
    show cw_X _ _ _ _ _ [cv_i x1008] h1002
    refine ex_if0 oq_X12_odds_22 (t := 34) rfl rfl (fun (c1009 : x1008.toInt = 0) => ?_) (fun (c1009 : ¬ (x1008.toInt = 0)) => ?_)
    · refine ex_ic oq_X12_odds_34 (m := (-1)) (by decide) (fun x1010 hx1010 => ?_)
      exact ex_reti oq_X12_odds_35 rfl ⟨⟨_, rfl, cw_top_ok _⟩, ⟨Th1002, pp_fr0 (by decide +kernel) hP Fh1002⟩, Fh1002, fun y hy hy0 => ⟨fun t ht => absurd ht List.not_mem_nil, fun t ht => absurd ht List.not_mem_nil⟩⟩
    · refine ex_il oq_X12_odds_25 rfl ?_
      refine ex_ic oq_X12_odds_26 (m := 0) (by decide) (fun x1011 hx1011 => ?_)
      refine ex_ic oq_X12_odds_27 (m := 1) (by decide) (fun x1012 hx1012 => ?_)
      refine ex_cs oq_X12_odds_28 (by decide) (as := [cv_i w, cv_i x1011, cv_i x1012]) (stk := []) rfl rfl rfl ⟨rfl, rfl⟩ (R := fun o => ∃ x : Int32, o = (some (cv_i x), h1002) ∧ (x.toInt = 1 ∧ x1011.toInt ≤ w.toInt ∧ w.toInt ≤ x1012.toInt ∨ x.toInt = 0 ∧ ¬ (x1011.toInt ≤ w.toInt ∧ w.toInt ≤ x1012.toInt))) (sp_isIn Th1002 w x1011 x1012  (fun x hx => ⟨x, rfl, hx⟩)) (fun ox1013 hox1013 => ?_)
      obtain ⟨x1013, rfl, hx1013⟩ := hox1013
      show cw_X _ _ _ _ _ [cv_i x1013] h1002
      refine ex_if0 oq_X12_odds_31 (t := 36) rfl rfl (fun (c1014 : ¬ x1013.toInt = 0) => ?_) (fun (c1014 : ¬ (¬ x1013.toInt = 0)) => ?_)
      · refine ex_al oq_X12_odds_36 rfl ?_
        refine ex_il oq_X12_odds_37 rfl ?_
        have Ph1002 : cw_PP G h1002 := pp_fr0 (by decide +kernel) hP Fh1002
        refine ex_cv oq_X12_odds_38 (by decide) Th1002 (k := 111) (d := 12) (as := [cv_i g]) (stk := []) rfl rfl rfl rfl rfl rfl ⟨rfl, rfl⟩ (R := fun o => ∃ (x : Int32) (hb : cv_H), o = (some (cv_i x), hb) ∧ cw_T G hb ∧ cw_Fr cw_Ds cw_sh kk_X12_fitting.2.2.2.2.2.1 h1002 hb ∧ 0 ≤ x.toInt ∧ x.toInt < 2 ^ ((ri_at h1002 111 14).toNat + 1)) (sp_fitting (cw_Xok_no2 hX) hlc hif Th1002 Ph1002 g (by omega) (by omega) (by omega) (fun x h a1 a2 a3 a4 => ⟨x, h, rfl, a1, a2, a3, a4⟩)) (fun o ho => ?_)
        obtain ⟨x1016, h1015, rfl, Th1015, Ch1015, lx1016, ux1016⟩ := ho
        show cw_X _ _ _ _ _ [cv_i x1016] h1015
        have Fh1015 : cw_Fr cw_Ds cw_sh kk_X12_odds.2.2.2.2.2.1 h h1015 := cw_Fr_tr Fh1002 (cw_Fr_mono (by decide +kernel) Ch1015)
        have eh1015_14 : ri_at h1015 111 14 = ri_at h1002 111 14 := ri_frf Ch1015 (d := 12) rfl rfl (by decide +kernel)
        refine ex_iswA oq_X12_odds_41 (fun L1017 gL1017_4 kL1017 => ?_)
        have gL1017_0 : cv_get L1017 0 = some (cv_r 111) := kL1017 0 _ (by decide) (fun q => absurd q (by decide)) rfl
        have gL1017_1 : cv_get L1017 1 = some (cv_i g) := kL1017 1 _ (by decide) (fun q => absurd q (by decide)) rfl
        have gL1017_2 : cv_get L1017 2 = some (cv_i c) := kL1017 2 _ (by decide) (fun q => absurd q (by decide)) rfl
        have gL1017_3 : cv_get L1017 3 = some (cv_i w) := kL1017 3 _ (by decide) (fun _ => rfl) rfl
        refine ex_ilw oq_X12_odds_43 gL1017_4 ?_
        refine ex_if0 oq_X12_odds_45 (t := 50) rfl rfl (fun (c1018 : ¬ x1016.toInt = 0) => ?_) (fun (c1018 : ¬ (¬ x1016.toInt = 0)) => ?_)
        · refine ex_ic oq_X12_odds_50 (m := 0) (by decide) (fun x1019 hx1019 => ?_)
          refine ex_iswA oq_X12_odds_51 (fun L1020 gL1020_5 kL1020 => ?_)
          have gL1020_4 : cv_get L1020 4 = some (cv_i x1016) := kL1020 4 _ (by decide) (fun _ => rfl) gL1017_4
          have gL1020_0 : cv_get L1020 0 = some (cv_r 111) := kL1020 0 _ (by decide) (fun q => absurd q (by decide)) gL1017_0
          have gL1020_1 : cv_get L1020 1 = some (cv_i g) := kL1020 1 _ (by decide) (fun q => absurd q (by decide)) gL1017_1
          have gL1020_2 : cv_get L1020 2 = some (cv_i c) := kL1020 2 _ (by decide) (fun q => absurd q (by decide)) gL1017_2
          have gL1020_3 : cv_get L1020 3 = some (cv_i w) := kL1020 3 _ (by decide) (fun q => absurd q (by decide)) gL1017_3
          refine ex_ic oq_X12_odds_53 (m := 0) (by decide) (fun x1021 hx1021 => ?_)
          refine ex_iswA oq_X12_odds_54 (fun L1022 gL1022_6 kL1022 => ?_)
          have gL1022_5 : cv_get L1022 5 = some (cv_i x1019) := kL1022 5 _ (by decide) (fun _ => rfl) gL1020_5
          have gL1022_4 : cv_get L1022 4 = some (cv_i x1016) := kL1022 4 _ (by decide) (fun q => absurd q (by decide)) gL1020_4
          have gL1022_0 : cv_get L1022 0 = some (cv_r 111) := kL1022 0 _ (by decide) (fun q => absurd q (by decide)) gL1020_0
          have gL1022_1 : cv_get L1022 1 = some (cv_i g) := kL1022 1 _ (by decide) (fun q => absurd q (by decide)) gL1020_1
          have gL1022_2 : cv_get L1022 2 = some (cv_i c) := kL1022 2 _ (by decide) (fun q => absurd q (by decide)) gL1020_2
          have gL1022_3 : cv_get L1022 3 = some (cv_i w) := kL1022 3 _ (by decide) (fun q => absurd q (by decide)) gL1020_3
          have hpw : (2 : Int) ^ ((ri_at h 111 14).toNat + 1) ≤ 128 := by
            have e : (ri_at h 111 14).toNat + 1 ≤ 7 := by omega
            have e2 := Nat.pow_le_pow_right (n := 2) (by decide) e
            have e3 : ((2 ^ ((ri_at h 111 14).toNat + 1) : Nat) : Int) ≤ ((2 ^ 7 : Nat) : Int) := Int.ofNat_le.mpr e2
            rw [Int.natCast_pow] at e3
            exact e3
          have ehb : (ri_at h1002 111 14).toNat = (ri_at h 111 14).toNat := by omega
          rw [ehb] at ux1016
          exact od_56 hX hlc hif hP g c w x1016 (by omega) (by omega) (by omega) ux1016 (by omega) (by omega) (fun x h a1 a2 => ⟨⟨x, rfl, cw_top_ok _⟩, ⟨a1, pp_fr0 (by decide +kernel) hP a2⟩, a2, fun y hy hy0 => ⟨fun t ht => absurd ht List.not_mem_nil, fun t ht => absurd ht List.not_mem_nil⟩⟩) _ x1019 x1021 h1015 Th1015 Fh1015 L1022 gL1022_0 gL1022_1 gL1022_2 gL1022_3 gL1022_4 gL1022_5 gL1022_6 (by omega) (by omega) (.inr (fun j hj => absurd hj (by omega))) (Nat.le_refl _)
        · refine ex_ic oq_X12_odds_48 (m := 0) (by decide) (fun x1023 hx1023 => ?_)
          exact ex_reti oq_X12_odds_49 rfl ⟨⟨_, rfl, cw_top_ok _⟩, ⟨Th1015, pp_fr0 (by decide +kernel) hP Fh1015⟩, Fh1015, fun y hy hy0 => ⟨fun t ht => absurd ht List.not_mem_nil, fun t ht => absurd ht List.not_mem_nil⟩⟩
      · refine ex_ic oq_X12_odds_34 (m := (-1)) (by decide) (fun x1024 hx1024 => ?_)
        exact ex_reti oq_X12_odds_35 rfl ⟨⟨_, rfl, cw_top_ok _⟩, ⟨Th1002, pp_fr0 (by decide +kernel) hP Fh1002⟩, Fh1002, fun y hy hy0 => ⟨fun t ht => absurd ht List.not_mem_nil, fun t ht => absurd ht List.not_mem_nil⟩⟩
end SPM
end
section
/-! ===== the signs that wait ===== -/
def sn_b (f : Nat → Int) : Nat → Int
  | 0 => 0
  | n + 1 => sn_b f n + (if 3 ≤ f n then 1 else 0)
def sn_u (f : Nat → Int) : Nat → Int
  | 0 => 0
  | n + 1 => sn_u f n + (if f n = 2 then 1 else 0)
def sn_p (f : Nat → Int) : Nat → Int
  | 0 => 0
  | n + 1 => sn_p f n + (if f n = 0 then 1 else 0)
theorem sn_bx {f g : Nat → Int} : ∀ n, (∀ i, i < n → f i = g i) → sn_b f n = sn_b g n ∧ sn_u f n = sn_u g n ∧ sn_p f n = sn_p g n
  | 0, _ => ⟨rfl, rfl, rfl⟩
  | n + 1, h => by
    have ih := sn_bx n (fun i hi => h i (by omega))
    show sn_b f n + _ = sn_b g n + _ ∧ sn_u f n + _ = sn_u g n + _ ∧ sn_p f n + _ = sn_p g n + _
    rw [ih.1, ih.2.1, ih.2.2, h n (by omega)]
    exact ⟨rfl, rfl, rfl⟩
theorem sn_nn (f : Nat → Int) : ∀ n, 0 ≤ sn_b f n ∧ 0 ≤ sn_u f n ∧ 0 ≤ sn_p f n
  | 0 => ⟨Int.le_refl _, Int.le_refl _, Int.le_refl _⟩
  | n + 1 => by
    have ih := sn_nn f n
    show 0 ≤ sn_b f n + _ ∧ 0 ≤ sn_u f n + _ ∧ 0 ≤ sn_p f n + _
    refine ⟨?_, ?_, ?_⟩
    · split <;> omega
    · split <;> omega
    · split <;> omega
/-- how the signs that wait, the knots that are held and those that are counted hang together -/
def sn_I (h : cv_H) : Prop :=
  0 ≤ ri_at h 111 37 ∧
  (∀ i : Nat, (i : Int) < ri_at h 111 37 → ri_at h 128 i = 0 ∨ ri_at h 128 i = 2 ∨ (3 ≤ ri_at h 128 i ∧ ri_at h 128 i ≤ 14)) ∧
  ri_at h 111 37 = sn_b (ri_at h 128) (ri_at h 111 37).toNat + sn_u (ri_at h 128) (ri_at h 111 37).toNat + sn_p (ri_at h 128) (ri_at h 111 37).toNat ∧
  ri_at h 111 38 = sn_b (ri_at h 128) (ri_at h 111 37).toNat + (1 - ri_at h 111 41) ∧
  ri_at h 111 19 + sn_b (ri_at h 128) (ri_at h 111 37).toNat + sn_u (ri_at h 128) (ri_at h 111 37).toNat = ri_at h 111 40 ∧
  sn_p (ri_at h 128) (ri_at h 111 37).toNat = ri_at h 111 39 ∧
  ri_at h 111 38 ≤ ri_at h 111 19
theorem sn_push {h h' : cv_H} (hI : sn_I h) (v : Int) (hv : v = 0 ∨ v = 2 ∨ (3 ≤ v ∧ v ≤ 14)) (hw : ri_at h' 111 37 = ri_at h 111 37 + 1) (h1 : ri_at h' 128 (ri_at h 111 37).toNat = v) (h2 : ∀ i : Nat, (i : Int) < ri_at h 111 37 → ri_at h' 128 i = ri_at h 128 i)
    (hH : ri_at h' 111 38 = ri_at h 111 38 + (if 3 ≤ v then 1 else 0) + (ri_at h 111 41 - ri_at h' 111 41)) (hC : ri_at h' 111 40 = ri_at h 111 40 + (if v = 0 then 0 else 1)) (hB : ri_at h' 111 39 = ri_at h 111 39 + (if v = 0 then 1 else 0)) (hK : ri_at h' 111 19 = ri_at h 111 19) (hl : ri_at h' 111 38 ≤ ri_at h' 111 19) : sn_I h' := by
  obtain ⟨i0, i1, i2, i3, i4, i5, i6⟩ := hI
  have e : (ri_at h' 111 37).toNat = (ri_at h 111 37).toNat + 1 := by omega
  have ex := sn_bx (f := ri_at h' 128) (g := ri_at h 128) (ri_at h 111 37).toNat (fun i hi => h2 i (by omega))
  have eb : sn_b (ri_at h' 128) (ri_at h' 111 37).toNat = sn_b (ri_at h 128) (ri_at h 111 37).toNat + (if 3 ≤ v then 1 else 0) := by
    rw [e]; show sn_b _ _ + (if 3 ≤ ri_at h' 128 (ri_at h 111 37).toNat then 1 else 0) = _; rw [h1, ex.1]
  have eu : sn_u (ri_at h' 128) (ri_at h' 111 37).toNat = sn_u (ri_at h 128) (ri_at h 111 37).toNat + (if v = 2 then 1 else 0) := by
    rw [e]; show sn_u _ _ + (if ri_at h' 128 (ri_at h 111 37).toNat = 2 then 1 else 0) = _; rw [h1, ex.2.1]
  have ep : sn_p (ri_at h' 128) (ri_at h' 111 37).toNat = sn_p (ri_at h 128) (ri_at h 111 37).toNat + (if v = 0 then 1 else 0) := by
    rw [e]; show sn_p _ _ + (if ri_at h' 128 (ri_at h 111 37).toNat = 0 then 1 else 0) = _; rw [h1, ex.2.2]
  refine ⟨by omega, fun i hi => ?_, ?_, ?_, ?_, ?_, hl⟩
  · by_cases q : i = (ri_at h 111 37).toNat
    · rw [q, h1]; exact hv
    · rw [h2 i (by omega)]; exact i1 i (by omega)
  · rw [eb, eu, ep]; rcases hv with rfl | rfl | hv
    · simp; omega
    · simp; omega
    · rw [if_pos hv.1, if_neg (by omega), if_neg (by omega)]; omega
  · rw [eb, hH]; omega
  · rw [eb, eu, hK, hC]; rcases hv with rfl | rfl | hv
    · simp; omega
    · simp; omega
    · rw [if_pos hv.1, if_neg (by omega), if_neg (by omega)]; omega
  · rw [ep, hB, i5]
/-- the top of what waits -/
theorem sn_top {h : cv_H} (hI : sn_I h) (hw : 1 ≤ ri_at h 111 37) : ∃ v, ri_at h 128 ((ri_at h 111 37).toNat - 1) = v ∧ (v = 0 ∨ v = 2 ∨ (3 ≤ v ∧ v ≤ 14)) ∧ sn_b (ri_at h 128) (ri_at h 111 37).toNat = sn_b (ri_at h 128) ((ri_at h 111 37).toNat - 1) + (if 3 ≤ v then 1 else 0) ∧ sn_u (ri_at h 128) (ri_at h 111 37).toNat = sn_u (ri_at h 128) ((ri_at h 111 37).toNat - 1) + (if v = 2 then 1 else 0) ∧ sn_p (ri_at h 128) (ri_at h 111 37).toNat = sn_p (ri_at h 128) ((ri_at h 111 37).toNat - 1) + (if v = 0 then 1 else 0) := by
  obtain ⟨n, hn⟩ : ∃ n, (ri_at h 111 37).toNat = n + 1 := ⟨(ri_at h 111 37).toNat - 1, by omega⟩
  rw [hn]
  exact ⟨_, rfl, hI.2.1 n (by omega), rfl, rfl, rfl⟩
/-- the top taken away, and what it bound made a knot -/
theorem sn_pop {h h' : cv_H} (hI : sn_I h) (hw : 1 ≤ ri_at h 111 37) (hw' : ri_at h' 111 37 = ri_at h 111 37 - 1) (h2 : ∀ i : Nat, (i : Int) < ri_at h' 111 37 → ri_at h' 128 i = ri_at h 128 i)
    (hH : ri_at h' 111 38 = ri_at h 111 38 - (if 3 ≤ ri_at h 128 ((ri_at h 111 37).toNat - 1) then 1 else 0)) (hN : ri_at h' 111 41 = ri_at h 111 41) (hC : ri_at h' 111 40 = ri_at h 111 40) (hB : ri_at h' 111 39 = ri_at h 111 39 - (if ri_at h 128 ((ri_at h 111 37).toNat - 1) = 0 then 1 else 0)) (hK : ri_at h' 111 19 = ri_at h 111 19 + (if ri_at h 128 ((ri_at h 111 37).toNat - 1) = 0 then 0 else 1)) : sn_I h' := by
  obtain ⟨v, hv, hvv, eb, eu, ep⟩ := sn_top hI hw
  rw [hv] at hH hB hK
  obtain ⟨i0, i1, i2, i3, i4, i5, i6⟩ := hI
  have e : (ri_at h' 111 37).toNat = (ri_at h 111 37).toNat - 1 := by omega
  have ex := sn_bx (f := ri_at h' 128) (g := ri_at h 128) ((ri_at h 111 37).toNat - 1) (fun i hi => h2 i (by omega))
  refine ⟨by omega, fun i hi => ?_, ?_, ?_, ?_, ?_, ?_⟩
  · rw [h2 i hi]; exact i1 i (by omega)
  · rw [e, ex.1, ex.2.1, ex.2.2]
    rcases hvv with rfl | rfl | hvv
    · simp at eb eu ep; omega
    · simp at eb eu ep; omega
    · rw [if_pos hvv.1] at eb; rw [if_neg (by omega)] at eu; rw [if_neg (by omega)] at ep; omega
  · rw [e, ex.1, hH, hN]
    rcases hvv with rfl | rfl | hvv
    · simp at eb ⊢; omega
    · simp at eb ⊢; omega
    · rw [if_pos hvv.1] at eb ⊢; omega
  · rw [e, ex.1, ex.2.1, hK, hC]
    rcases hvv with rfl | rfl | hvv
    · simp at eb eu ⊢; omega
    · simp at eb eu ⊢; omega
    · rw [if_pos hvv.1] at eb; rw [if_neg (by omega)] at eu; rw [if_neg (by omega)]; omega
  · rw [e, ex.2.2, hB]
    rcases hvv with rfl | rfl | hvv
    · simp at ep ⊢; omega
    · simp at ep ⊢; omega
    · rw [if_neg (by omega)] at ep ⊢; omega
  · rw [hH, hK]
    rcases hvv with rfl | rfl | hvv
    · simp; omega
    · simp; omega
    · rw [if_pos hvv.1, if_neg (by omega)]; omega
end
