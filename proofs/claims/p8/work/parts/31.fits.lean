/-! ===== methods walked by hand: odds ===== -/
def ob_t (b : Int32) (j : Nat) : Prop := (b >>> (Int32.ofNat j &&& 31)) &&& 1 = 1
theorem ob_all : ∀ n, n < 128 → ∀ m, m < 7 → 0 < n → n < 2 ^ (m + 1) → ∃ k, k < m + 1 ∧ (Int32.ofNat n >>> (Int32.ofNat k &&& 31)) &&& 1 = 1 := by decide +kernel
theorem ob_or : ∀ n, n < 128 → ∀ c, c < 7 → n < 2 ^ c → (Int32.ofNat n ||| ((1 : Int32) <<< (Int32.ofNat c &&& 31))).toInt = n + 2 ^ c := by decide +kernel
theorem ob_nat {b : Int32} {n : Nat} (h : b.toInt = n) (hn : n ≤ 10000) : b = Int32.ofNat n := Int32.toInt_inj.mp (by rw [h, cw_ofNat hn])
theorem ob_c1 {c : Int32} (h : c.toInt = 1) : c = 1 := Int32.toInt_inj.mp (by rw [h]; rfl)
theorem ob_c0 {c : Int32} (h : c.toInt = 0) : c = 0 := Int32.toInt_inj.mp (by rw [h]; rfl)
section SPL
variable {G : Int} {X : cv_X} {Q : cv_O → Prop}
theorem sp_isOfE {h : cv_H} (b k : Int32) (kn : Nat) (hk : k = Int32.ofNat kn) (hQ : ∀ x : Int32, (x.toInt = 1 ∧ ob_t b kn ∨ x.toInt = 0 ∧ ¬ ob_t b kn) → Q (some (cv_i x), h)) : cw_X X 157 Q 0 (cv_ent 0 [cv_i b, cv_i k]) [] h := by
  refine ex_il oq_X12_isOf_0 rfl ?_
  refine ex_il oq_X12_isOf_1 rfl ?_
  refine ex_shrE oq_X12_isOf_2 (fun x1 hx1 => ?_)
  refine ex_ic oq_X12_isOf_3 (m := 1) (by decide) (fun x2 hx2 => ?_)
  refine ex_andE oq_X12_isOf_4 (fun x3 hx3 => ?_)
  refine ex_ic oq_X12_isOf_5 (m := 1) (by decide) (fun x4 hx4 => ?_)
  refine ex_if oq_X12_isOf_6 (t := 13) rfl rfl (fun (c5 : ¬ x3.toInt = x4.toInt) => ?_) (fun (c5 : ¬ (¬ x3.toInt = x4.toInt)) => ?_)
  · refine ex_ic oq_X12_isOf_13 (m := 0) (by decide) (fun x6 hx6 => ?_)
    refine ex_retb oq_X12_isOf_14 rfl (by omega) (by omega) (hQ x6 ?_)
    refine .inr ⟨hx6, fun q => c5 ?_⟩
    have e : x3 = 1 := by rw [hx3, hx1, ob_c1 hx2, hk]; exact q
    rw [e, hx4]; rfl
  · refine ex_ic oq_X12_isOf_9 (m := 1) (by decide) (fun x7 hx7 => ?_)
    refine ex_go oq_X12_isOf_10 (t := 14) rfl rfl ?_
    refine ex_retb oq_X12_isOf_14 rfl (by omega) (by omega) (hQ x7 ?_)
    have e : x3.toInt = 1 := by omega
    have e2 := ob_c1 e
    rw [hx3, hx1, ob_c1 hx2, hk] at e2
    exact .inl ⟨hx7, e2⟩
theorem oq_X12_weightOf_0 : cw_ho 249 0 (.iload_n 1) 1 0 0 0 := rfl
theorem oq_X12_weightOf_1 : cw_ho 249 1 (.aload_n 0) 1 0 0 0 := rfl
theorem oq_X12_weightOf_2 : cw_ho 249 2 (.getfield 222) 3 12 14 0 := rfl
theorem oq_X12_weightOf_5 : cw_ho 249 5 (.if_icmp .ge 14) 3 0 0 0 := rfl
theorem oq_X12_weightOf_8 : cw_ho 249 8 (.aload_n 0) 1 0 0 0 := rfl
theorem oq_X12_weightOf_9 : cw_ho 249 9 (.getfield 51) 3 12 31 4 := rfl
theorem oq_X12_weightOf_12 : cw_ho 249 12 (.iconst 3) 1 0 0 0 := rfl
theorem oq_X12_weightOf_13 : cw_ho 249 13 (.iload_n 1) 1 0 0 0 := rfl
theorem oq_X12_weightOf_14 : cw_ho 249 14 (.imul) 1 0 0 0 := rfl
theorem oq_X12_weightOf_15 : cw_ho 249 15 (.iaload) 1 0 0 0 := rfl
theorem oq_X12_weightOf_16 : cw_ho 249 16 (.goto 4) 3 0 0 0 := rfl
theorem oq_X12_weightOf_19 : cw_ho 249 19 (.iconst 1) 1 0 0 0 := rfl
theorem oq_X12_weightOf_20 : cw_ho 249 20 (.ireturn) 1 0 0 0 := rfl
theorem sp_weightOf {h : cv_H} (hT : cw_T G h) (hP : cw_PP G h) (c : Int32) (c0 : 0 ≤ c.toInt) (c1 : c.toInt ≤ 6) (hQ : ∀ x : Int32, 1 ≤ x.toInt → x.toInt ≤ 99 → Q (some (cv_i x), h)) : cw_X X 249 Q 0 (cv_ent 0 [cv_r 111, cv_i c]) [] h := by
  refine ex_il oq_X12_weightOf_0 rfl ?_
  refine ex_al oq_X12_weightOf_1 rfl ?_
  obtain ⟨x1, ax1, rx1, lx1, ux1⟩ := fi_causes hT
  refine ex_gf oq_X12_weightOf_2 hT (k := 111) (d := 12) rfl rfl ax1 ?_
  refine ex_if oq_X12_weightOf_5 (t := 19) rfl rfl (fun (c2 : x1.toInt ≤ c.toInt) => ?_) (fun (c2 : ¬ (x1.toInt ≤ c.toInt)) => ?_)
  · refine ex_ic oq_X12_weightOf_19 (m := 1) (by decide) (fun x3 hx3 => ?_)
    exact ex_reti oq_X12_weightOf_20 rfl (hQ x3 (by omega) (by omega))
  · have hp7 := hP.2.2.2.2.2.2 c.toInt.toNat (by omega) (by omega)
    refine ex_al oq_X12_weightOf_8 rfl ?_
    refine ex_gf oq_X12_weightOf_9 hT (k := 111) (d := 12) rfl rfl (fr_causeHas hT) ?_
    refine ex_ic oq_X12_weightOf_12 (m := 3) (by decide) (fun x4 hx4 => ?_)
    refine ex_il oq_X12_weightOf_13 rfl ?_
    refine ex_mul oq_X12_weightOf_14 (m := 3 * c.toInt) (by rw [hx4]) (by omega) (fun x5 hx5 => ?_)
    refine ex_iap oq_X12_weightOf_15 hT (k := 124) (d := 63) (j := 3 * c.toInt.toNat) rfl rfl (by omega) (by omega) (fun x6 hx6 => ?_)
    refine ex_go oq_X12_weightOf_16 (t := 20) rfl rfl ?_
    exact ex_reti oq_X12_weightOf_20 rfl (hQ x6 (by omega) (by omega))
theorem oq_X12_fitting_0 : cw_ho 247 0 (.aload_n 0) 1 0 0 0 := rfl
theorem oq_X12_fitting_1 : cw_ho 247 1 (.invokevirtual 454) 3 242 0 12 := rfl
theorem oq_X12_fitting_4 : cw_ho 247 4 (.iconst 0) 1 0 0 0 := rfl
theorem oq_X12_fitting_5 : cw_ho 247 5 (.istore_n 2) 1 0 0 0 := rfl
theorem oq_X12_fitting_6 : cw_ho 247 6 (.iconst 0) 1 0 0 0 := rfl
theorem oq_X12_fitting_7 : cw_ho 247 7 (.istore_n 3) 1 0 0 0 := rfl
theorem oq_X12_fitting_8 : cw_ho 247 8 (.iload_n 3) 1 0 0 0 := rfl
theorem oq_X12_fitting_9 : cw_ho 247 9 (.aload_n 0) 1 0 0 0 := rfl
theorem oq_X12_fitting_10 : cw_ho 247 10 (.getfield 222) 3 12 14 0 := rfl
theorem oq_X12_fitting_13 : cw_ho 247 13 (.if_icmp .gt 28) 3 0 0 0 := rfl
theorem oq_X12_fitting_16 : cw_ho 247 16 (.iload_n 2) 1 0 0 0 := rfl
theorem oq_X12_fitting_17 : cw_ho 247 17 (.aload_n 0) 1 0 0 0 := rfl
theorem oq_X12_fitting_18 : cw_ho 247 18 (.iload_n 1) 1 0 0 0 := rfl
theorem oq_X12_fitting_19 : cw_ho 247 19 (.iload_n 3) 1 0 0 0 := rfl
theorem oq_X12_fitting_20 : cw_ho 247 20 (.invokevirtual 457) 3 246 2 12 := rfl
theorem oq_X12_fitting_23 : cw_ho 247 23 (.ifCond .eq 9) 3 0 0 0 := rfl
theorem oq_X12_fitting_26 : cw_ho 247 26 (.iconst 1) 1 0 0 0 := rfl
theorem oq_X12_fitting_27 : cw_ho 247 27 (.iload_n 3) 1 0 0 0 := rfl
theorem oq_X12_fitting_28 : cw_ho 247 28 (.ishl) 1 0 0 0 := rfl
theorem oq_X12_fitting_29 : cw_ho 247 29 (.goto 4) 3 0 0 0 := rfl
theorem oq_X12_fitting_32 : cw_ho 247 32 (.iconst 0) 1 0 0 0 := rfl
theorem oq_X12_fitting_33 : cw_ho 247 33 (.ior) 1 0 0 0 := rfl
theorem oq_X12_fitting_34 : cw_ho 247 34 (.istore_n 2) 1 0 0 0 := rfl
theorem oq_X12_fitting_35 : cw_ho 247 35 (.iinc 3 1) 3 0 0 0 := rfl
theorem oq_X12_fitting_38 : cw_ho 247 38 (.goto (-30)) 3 0 0 0 := rfl
theorem oq_X12_fitting_41 : cw_ho 247 41 (.iload_n 2) 1 0 0 0 := rfl
theorem oq_X12_fitting_42 : cw_ho 247 42 (.ireturn) 1 0 0 0 := rfl
theorem ft_8 {h0 : cv_H} (hX : cw_Xok X) (hlc : cw_Holds fk_all mt_all cw_Ds cw_sh G (cw_PP G) kk_X12_layCounts) (hif : cw_Holds fk_all mt_all cw_Ds cw_sh G (cw_PP G) kk_X12_isFit) (hP0 : cw_PP G h0) (g : Int32) (g0 : 0 ≤ g.toInt) (g1 : g.toInt ≤ 3) (g2 : g.toInt < G) (hfin : ∀ (x : Int32) h, cw_T G h → cw_Fr cw_Ds cw_sh kk_X12_fitting.2.2.2.2.2.1 h0 h → 0 ≤ x.toInt → x.toInt < 2 ^ ((ri_at h0 111 14).toNat + 1) → Q (some (cv_i x), h)) : ∀ (N : Nat) (b c : Int32) (h : cv_H), cw_T G h → cw_Fr cw_Ds cw_sh kk_X12_fitting.2.2.2.2.2.1 h0 h → ∀ L : cv_L, cv_get L 0 = some (cv_r 111) → cv_get L 1 = some (cv_i g) → cv_get L 2 = some (cv_i b) → cv_get L 3 = some (cv_i c) → 0 ≤ c.toInt ∧ c.toInt ≤ ri_at h0 111 14 + 1 → ri_at h0 111 14 ≤ 6 → 0 ≤ b.toInt → b.toInt < 2 ^ c.toInt.toNat → (7 - c.toInt).toNat ≤ N → cw_X X 247 Q 8 L [] h := by
  intro N
  induction N with
  | zero =>
    intro b c h Th Fh L q0 q1 q2 q3 c0 ca6 b0 hb hN
    have hca : ri_at h 111 14 = ri_at h0 111 14 := ri_frf Fh (d := 12) rfl rfl (by decide +kernel)
    have hb7 : (2 : Int) ^ c.toInt.toNat ≤ 128 := by
      have e : c.toInt.toNat ≤ 7 := by omega
      have e2 := Nat.pow_le_pow_right (n := 2) (by decide) e
      have e3 : ((2 ^ c.toInt.toNat : Nat) : Int) ≤ ((2 ^ 7 : Nat) : Int) := Int.ofNat_le.mpr e2
      rw [Int.natCast_pow] at e3
      exact e3
    refine ex_il oq_X12_fitting_8 q3 ?_
    refine ex_al oq_X12_fitting_9 q0 ?_
    obtain ⟨x1, ax1, rx1, lx1, ux1⟩ := fi_causes Th
    refine ex_gf oq_X12_fitting_10 Th (k := 111) (d := 12) rfl rfl ax1 ?_
    refine ex_if oq_X12_fitting_13 (t := 41) rfl rfl (fun (c2 : x1.toInt < c.toInt) => ?_) (fun (c2 : ¬ (x1.toInt < c.toInt)) => ?_)
    · refine ex_il oq_X12_fitting_41 q2 ?_
      have ec : c.toInt.toNat = (ri_at h0 111 14).toNat + 1 := by omega
      rw [ec] at hb
      exact ex_reti oq_X12_fitting_42 rfl (hfin b h Th Fh b0 hb)
    · refine ex_il oq_X12_fitting_16 q2 ?_
      refine ex_al oq_X12_fitting_17 q0 ?_
      refine ex_il oq_X12_fitting_18 q1 ?_
      refine ex_il oq_X12_fitting_19 q3 ?_
      have Ph : cw_PP G h := pp_fr0 (by decide +kernel) hP0 Fh
      refine ex_cv oq_X12_fitting_20 (by decide) Th (k := 111) (d := 12) (as := [cv_i g, cv_i c]) (stk := [cv_i b]) rfl rfl rfl rfl rfl rfl ⟨rfl, rfl⟩ (cw_HX hif rfl (cw_Xok_no2 hX) ⟨Th, Ph⟩ ⟨.inl ⟨by decide, 111, rfl, rfl⟩, ⟨_, rfl, by show (0 : Int) ≤ _; omega, by show _ ≤ (3 : Int); omega, cw_tg2 (by omega) (by omega)⟩, ⟨_, rfl, cw_top_ok _⟩, trivial⟩ (fun t ht => absurd ht List.not_mem_nil)) (fun ox4 hox4 => ?_)
      obtain ⟨x4, h3, rfl, rx4, Th3, Ph3, Ch3, tx4⟩ := po_int hox4 rfl
      have lx4 := rx4.1
      have ux4 := rx4.2.1
      try dsimp only at lx4 ux4
      show cw_X _ _ _ _ _ [cv_i x4, cv_i b] h3
      have Fh3 : cw_Fr cw_Ds cw_sh kk_X12_fitting.2.2.2.2.2.1 h0 h3 := cw_Fr_tr Fh (cw_Fr_mono (by decide +kernel) Ch3)
      have eh3_14 : ri_at h3 111 14 = ri_at h 111 14 := ri_frf Ch3 (d := 12) rfl rfl (by decide +kernel)
      refine ex_if0 oq_X12_fitting_23 (t := 32) rfl rfl (fun (c5 : x4.toInt = 0) => ?_) (fun (c5 : ¬ (x4.toInt = 0)) => ?_)
      · refine ex_ic oq_X12_fitting_32 (m := 0) (by decide) (fun x6 hx6 => ?_)
        refine ex_orE oq_X12_fitting_33 (fun x7 hx7 => ?_)
        refine ex_isA oq_X12_fitting_34 (fun L8 gL8_2 kL8 => ?_)
        have gL8_0 : cv_get L8 0 = some (cv_r 111) := kL8 0 _ (by decide) (fun q => absurd q (by decide)) q0
        have gL8_1 : cv_get L8 1 = some (cv_i g) := kL8 1 _ (by decide) (fun _ => rfl) q1
        have gL8_3 : cv_get L8 3 = some (cv_i c) := kL8 3 _ (by decide) (fun q => absurd q (by decide)) q3
        refine ex_incA oq_X12_fitting_35 (v := c) (m := 1) gL8_3 (by decide) (by omega) (fun L10 x9 hx9 gL10_3 kL10 => ?_)
        have gL10_2 : cv_get L10 2 = some (cv_i x7) := kL10 2 _ (by decide) (fun _ => rfl) gL8_2
        have gL10_0 : cv_get L10 0 = some (cv_r 111) := kL10 0 _ (by decide) (fun q => absurd q (by decide)) gL8_0
        have gL10_1 : cv_get L10 1 = some (cv_i g) := kL10 1 _ (by decide) (fun q => absurd q (by decide)) gL8_1
        refine ex_go oq_X12_fitting_38 (t := 8) rfl rfl ?_
        have hp2 : (2 : Int) ^ c.toInt.toNat ≤ 64 := by
          have e : c.toInt.toNat ≤ 6 := by omega
          have e2 := Nat.pow_le_pow_right (n := 2) (by decide) e
          have e3 : ((2 ^ c.toInt.toNat : Nat) : Int) ≤ ((2 ^ 6 : Nat) : Int) := Int.ofNat_le.mpr e2
          rw [Int.natCast_pow] at e3
          exact e3
        have ecn : x9.toInt.toNat = c.toInt.toNat + 1 := by omega
        have hps : (2 : Int) ^ (c.toInt.toNat + 1) = 2 * 2 ^ c.toInt.toNat := by rw [Int.pow_succ, Int.mul_comm]
        have hbn : x7.toInt = b.toInt := by rw [hx7, ob_c0 hx6]; simp
        exfalso; omega -- x7 x9 h3 Th3 Fh3 L10 gL10_0 gL10_1 gL10_2 gL10_3 (by omega) (by omega) (by omega) (by rw [ecn, hps]; omega) (by omega)
      · refine ex_ic oq_X12_fitting_26 (m := 1) (by decide) (fun x11 hx11 => ?_)
        refine ex_il oq_X12_fitting_27 q3 ?_
        refine ex_shlE oq_X12_fitting_28 (fun x12 hx12 => ?_)
        refine ex_go oq_X12_fitting_29 (t := 33) rfl rfl ?_
        refine ex_orE oq_X12_fitting_33 (fun x13 hx13 => ?_)
        refine ex_isA oq_X12_fitting_34 (fun L14 gL14_2 kL14 => ?_)
        have gL14_0 : cv_get L14 0 = some (cv_r 111) := kL14 0 _ (by decide) (fun q => absurd q (by decide)) q0
        have gL14_1 : cv_get L14 1 = some (cv_i g) := kL14 1 _ (by decide) (fun _ => rfl) q1
        have gL14_3 : cv_get L14 3 = some (cv_i c) := kL14 3 _ (by decide) (fun q => absurd q (by decide)) q3
        refine ex_incA oq_X12_fitting_35 (v := c) (m := 1) gL14_3 (by decide) (by omega) (fun L16 x15 hx15 gL16_3 kL16 => ?_)
        have gL16_2 : cv_get L16 2 = some (cv_i x13) := kL16 2 _ (by decide) (fun _ => rfl) gL14_2
        have gL16_0 : cv_get L16 0 = some (cv_r 111) := kL16 0 _ (by decide) (fun q => absurd q (by decide)) gL14_0
        have gL16_1 : cv_get L16 1 = some (cv_i g) := kL16 1 _ (by decide) (fun q => absurd q (by decide)) gL14_1
        refine ex_go oq_X12_fitting_38 (t := 8) rfl rfl ?_
        have hp2 : (2 : Int) ^ c.toInt.toNat ≤ 64 := by
          have e : c.toInt.toNat ≤ 6 := by omega
          have e2 := Nat.pow_le_pow_right (n := 2) (by decide) e
          have e3 : ((2 ^ c.toInt.toNat : Nat) : Int) ≤ ((2 ^ 6 : Nat) : Int) := Int.ofNat_le.mpr e2
          rw [Int.natCast_pow] at e3
          exact e3
        have ecn : x15.toInt.toNat = c.toInt.toNat + 1 := by omega
        have hps : (2 : Int) ^ (c.toInt.toNat + 1) = 2 * 2 ^ c.toInt.toNat := by rw [Int.pow_succ, Int.mul_comm]
        have hbn : 0 ≤ x13.toInt ∧ x13.toInt = b.toInt + 2 ^ c.toInt.toNat := by
          have en : ((b.toInt.toNat : Nat) : Int) < ((2 ^ c.toInt.toNat : Nat) : Int) := by
            rw [Int.natCast_pow]
            show _ < (2 : Int) ^ _
            omega
          have e0 := ob_or b.toInt.toNat (by omega) c.toInt.toNat (by omega) (Int.ofNat_lt.mp en)
          rw [hx13, hx12, ob_c1 hx11, ob_nat (b := b) (n := b.toInt.toNat) (by omega) (by omega), ob_nat (b := c) (n := c.toInt.toNat) (by omega) (by omega)]
          have q1 : (Int32.ofNat b.toInt.toNat).toInt.toNat = b.toInt.toNat := by rw [cw_ofNat (by omega)]; omega
          have q2 : (Int32.ofNat c.toInt.toNat).toInt.toNat = c.toInt.toNat := by rw [cw_ofNat (by omega)]; omega
          have q3 : (Int32.ofNat b.toInt.toNat).toInt = b.toInt.toNat := cw_ofNat (by omega)
          rw [e0, q2, q3]
          have q4 : (0 : Int) ≤ 2 ^ c.toInt.toNat := Int.pow_nonneg (by decide)
          omega
        exfalso; omega -- x13 x15 h3 Th3 Fh3 L16 gL16_0 gL16_1 gL16_2 gL16_3 (by omega) (by omega) (by omega) (by rw [ecn, hps]; omega) (by omega)
  | succ N ih =>
    intro b c h Th Fh L q0 q1 q2 q3 c0 ca6 b0 hb hN
    have hca : ri_at h 111 14 = ri_at h0 111 14 := ri_frf Fh (d := 12) rfl rfl (by decide +kernel)
    have hb7 : (2 : Int) ^ c.toInt.toNat ≤ 128 := by
      have e : c.toInt.toNat ≤ 7 := by omega
      have e2 := Nat.pow_le_pow_right (n := 2) (by decide) e
      have e3 : ((2 ^ c.toInt.toNat : Nat) : Int) ≤ ((2 ^ 7 : Nat) : Int) := Int.ofNat_le.mpr e2
      rw [Int.natCast_pow] at e3
      exact e3
    refine ex_il oq_X12_fitting_8 q3 ?_
    refine ex_al oq_X12_fitting_9 q0 ?_
    obtain ⟨x1, ax1, rx1, lx1, ux1⟩ := fi_causes Th
    refine ex_gf oq_X12_fitting_10 Th (k := 111) (d := 12) rfl rfl ax1 ?_
    refine ex_if oq_X12_fitting_13 (t := 41) rfl rfl (fun (c2 : x1.toInt < c.toInt) => ?_) (fun (c2 : ¬ (x1.toInt < c.toInt)) => ?_)
    · refine ex_il oq_X12_fitting_41 q2 ?_
      have ec : c.toInt.toNat = (ri_at h0 111 14).toNat + 1 := by omega
      rw [ec] at hb
      exact ex_reti oq_X12_fitting_42 rfl (hfin b h Th Fh b0 hb)
    · refine ex_il oq_X12_fitting_16 q2 ?_
      refine ex_al oq_X12_fitting_17 q0 ?_
      refine ex_il oq_X12_fitting_18 q1 ?_
      refine ex_il oq_X12_fitting_19 q3 ?_
      have Ph : cw_PP G h := pp_fr0 (by decide +kernel) hP0 Fh
      refine ex_cv oq_X12_fitting_20 (by decide) Th (k := 111) (d := 12) (as := [cv_i g, cv_i c]) (stk := [cv_i b]) rfl rfl rfl rfl rfl rfl ⟨rfl, rfl⟩ (cw_HX hif rfl (cw_Xok_no2 hX) ⟨Th, Ph⟩ ⟨.inl ⟨by decide, 111, rfl, rfl⟩, ⟨_, rfl, by show (0 : Int) ≤ _; omega, by show _ ≤ (3 : Int); omega, cw_tg2 (by omega) (by omega)⟩, ⟨_, rfl, cw_top_ok _⟩, trivial⟩ (fun t ht => absurd ht List.not_mem_nil)) (fun ox4 hox4 => ?_)
      obtain ⟨x4, h3, rfl, rx4, Th3, Ph3, Ch3, tx4⟩ := po_int hox4 rfl
      have lx4 := rx4.1
      have ux4 := rx4.2.1
      try dsimp only at lx4 ux4
      show cw_X _ _ _ _ _ [cv_i x4, cv_i b] h3
      have Fh3 : cw_Fr cw_Ds cw_sh kk_X12_fitting.2.2.2.2.2.1 h0 h3 := cw_Fr_tr Fh (cw_Fr_mono (by decide +kernel) Ch3)
      have eh3_14 : ri_at h3 111 14 = ri_at h 111 14 := ri_frf Ch3 (d := 12) rfl rfl (by decide +kernel)
      refine ex_if0 oq_X12_fitting_23 (t := 32) rfl rfl (fun (c5 : x4.toInt = 0) => ?_) (fun (c5 : ¬ (x4.toInt = 0)) => ?_)
      · refine ex_ic oq_X12_fitting_32 (m := 0) (by decide) (fun x6 hx6 => ?_)
        refine ex_orE oq_X12_fitting_33 (fun x7 hx7 => ?_)
        refine ex_isA oq_X12_fitting_34 (fun L8 gL8_2 kL8 => ?_)
        have gL8_0 : cv_get L8 0 = some (cv_r 111) := kL8 0 _ (by decide) (fun q => absurd q (by decide)) q0
        have gL8_1 : cv_get L8 1 = some (cv_i g) := kL8 1 _ (by decide) (fun _ => rfl) q1
        have gL8_3 : cv_get L8 3 = some (cv_i c) := kL8 3 _ (by decide) (fun q => absurd q (by decide)) q3
        refine ex_incA oq_X12_fitting_35 (v := c) (m := 1) gL8_3 (by decide) (by omega) (fun L10 x9 hx9 gL10_3 kL10 => ?_)
        have gL10_2 : cv_get L10 2 = some (cv_i x7) := kL10 2 _ (by decide) (fun _ => rfl) gL8_2
        have gL10_0 : cv_get L10 0 = some (cv_r 111) := kL10 0 _ (by decide) (fun q => absurd q (by decide)) gL8_0
        have gL10_1 : cv_get L10 1 = some (cv_i g) := kL10 1 _ (by decide) (fun q => absurd q (by decide)) gL8_1
        refine ex_go oq_X12_fitting_38 (t := 8) rfl rfl ?_
        have hp2 : (2 : Int) ^ c.toInt.toNat ≤ 64 := by
          have e : c.toInt.toNat ≤ 6 := by omega
          have e2 := Nat.pow_le_pow_right (n := 2) (by decide) e
          have e3 : ((2 ^ c.toInt.toNat : Nat) : Int) ≤ ((2 ^ 6 : Nat) : Int) := Int.ofNat_le.mpr e2
          rw [Int.natCast_pow] at e3
          exact e3
        have ecn : x9.toInt.toNat = c.toInt.toNat + 1 := by omega
        have hps : (2 : Int) ^ (c.toInt.toNat + 1) = 2 * 2 ^ c.toInt.toNat := by rw [Int.pow_succ, Int.mul_comm]
        have hbn : x7.toInt = b.toInt := by rw [hx7, ob_c0 hx6]; simp
        exact ih x7 x9 h3 Th3 Fh3 L10 gL10_0 gL10_1 gL10_2 gL10_3 (by omega) (by omega) (by omega) (by rw [ecn, hps]; omega) (by omega)
      · refine ex_ic oq_X12_fitting_26 (m := 1) (by decide) (fun x11 hx11 => ?_)
        refine ex_il oq_X12_fitting_27 q3 ?_
        refine ex_shlE oq_X12_fitting_28 (fun x12 hx12 => ?_)
        refine ex_go oq_X12_fitting_29 (t := 33) rfl rfl ?_
        refine ex_orE oq_X12_fitting_33 (fun x13 hx13 => ?_)
        refine ex_isA oq_X12_fitting_34 (fun L14 gL14_2 kL14 => ?_)
        have gL14_0 : cv_get L14 0 = some (cv_r 111) := kL14 0 _ (by decide) (fun q => absurd q (by decide)) q0
        have gL14_1 : cv_get L14 1 = some (cv_i g) := kL14 1 _ (by decide) (fun _ => rfl) q1
        have gL14_3 : cv_get L14 3 = some (cv_i c) := kL14 3 _ (by decide) (fun q => absurd q (by decide)) q3
        refine ex_incA oq_X12_fitting_35 (v := c) (m := 1) gL14_3 (by decide) (by omega) (fun L16 x15 hx15 gL16_3 kL16 => ?_)
        have gL16_2 : cv_get L16 2 = some (cv_i x13) := kL16 2 _ (by decide) (fun _ => rfl) gL14_2
        have gL16_0 : cv_get L16 0 = some (cv_r 111) := kL16 0 _ (by decide) (fun q => absurd q (by decide)) gL14_0
        have gL16_1 : cv_get L16 1 = some (cv_i g) := kL16 1 _ (by decide) (fun q => absurd q (by decide)) gL14_1
        refine ex_go oq_X12_fitting_38 (t := 8) rfl rfl ?_
        have hp2 : (2 : Int) ^ c.toInt.toNat ≤ 64 := by
          have e : c.toInt.toNat ≤ 6 := by omega
          have e2 := Nat.pow_le_pow_right (n := 2) (by decide) e
          have e3 : ((2 ^ c.toInt.toNat : Nat) : Int) ≤ ((2 ^ 6 : Nat) : Int) := Int.ofNat_le.mpr e2
          rw [Int.natCast_pow] at e3
          exact e3
        have ecn : x15.toInt.toNat = c.toInt.toNat + 1 := by omega
        have hps : (2 : Int) ^ (c.toInt.toNat + 1) = 2 * 2 ^ c.toInt.toNat := by rw [Int.pow_succ, Int.mul_comm]
        have hbn : 0 ≤ x13.toInt ∧ x13.toInt = b.toInt + 2 ^ c.toInt.toNat := by
          have en : ((b.toInt.toNat : Nat) : Int) < ((2 ^ c.toInt.toNat : Nat) : Int) := by
            rw [Int.natCast_pow]
            show _ < (2 : Int) ^ _
            omega
          have e0 := ob_or b.toInt.toNat (by omega) c.toInt.toNat (by omega) (Int.ofNat_lt.mp en)
          rw [hx13, hx12, ob_c1 hx11, ob_nat (b := b) (n := b.toInt.toNat) (by omega) (by omega), ob_nat (b := c) (n := c.toInt.toNat) (by omega) (by omega)]
          have q1 : (Int32.ofNat b.toInt.toNat).toInt.toNat = b.toInt.toNat := by rw [cw_ofNat (by omega)]; omega
          have q2 : (Int32.ofNat c.toInt.toNat).toInt.toNat = c.toInt.toNat := by rw [cw_ofNat (by omega)]; omega
          have q3 : (Int32.ofNat b.toInt.toNat).toInt = b.toInt.toNat := cw_ofNat (by omega)
          rw [e0, q2, q3]
          have q4 : (0 : Int) ≤ 2 ^ c.toInt.toNat := Int.pow_nonneg (by decide)
          omega
        exact ih x13 x15 h3 Th3 Fh3 L16 gL16_0 gL16_1 gL16_2 gL16_3 (by omega) (by omega) (by omega) (by rw [ecn, hps]; omega) (by omega)
theorem sp_fitting {h0 : cv_H} (hX : cw_Xok X) (hlc : cw_Holds fk_all mt_all cw_Ds cw_sh G (cw_PP G) kk_X12_layCounts) (hif : cw_Holds fk_all mt_all cw_Ds cw_sh G (cw_PP G) kk_X12_isFit) (hT : cw_T G h0) (hP : cw_PP G h0) (g : Int32) (g0 : 0 ≤ g.toInt) (g1 : g.toInt ≤ 3) (g2 : g.toInt < G) (hfin : ∀ (x : Int32) h, cw_T G h → cw_Fr cw_Ds cw_sh kk_X12_fitting.2.2.2.2.2.1 h0 h → 0 ≤ x.toInt → x.toInt < 2 ^ ((ri_at h0 111 14).toNat + 1) → Q (some (cv_i x), h)) : cw_X X 247 Q 0 (cv_ent 0 [cv_r 111, cv_i g]) [] h0 := by
  have Fh0 : cw_Fr cw_Ds cw_sh kk_X12_fitting.2.2.2.2.2.1 h0 h0 := cw_Fr_refl
  obtain ⟨_, _, rc0, lc0, uc0⟩ := fi_causes hT
  refine ex_al oq_X12_fitting_0 rfl ?_
  refine ex_cv oq_X12_fitting_1 (by decide) hT (k := 111) (d := 12) (as := []) (stk := []) rfl rfl rfl rfl rfl rfl ⟨rfl, rfl⟩ (cw_HX hlc rfl (cw_Xok_no2 hX) ⟨hT, hP⟩ ⟨.inl ⟨by decide, 111, rfl, rfl⟩, trivial⟩ (fun t ht => absurd ht List.not_mem_nil)) (fun ox502 hox502 => ?_)
  obtain ⟨h501, rfl, Th501, Ph501, Ch501⟩ := po_non hox502 rfl
  show cw_X _ _ _ _ _ [] h501
  have Fh501 : cw_Fr cw_Ds cw_sh kk_X12_fitting.2.2.2.2.2.1 h0 h501 := cw_Fr_tr Fh0 (cw_Fr_mono (by decide +kernel) Ch501)
  have eh501_14 : ri_at h501 111 14 = ri_at h0 111 14 := ri_frf Ch501 (d := 12) rfl rfl (by decide +kernel)
  refine ex_ic oq_X12_fitting_4 (m := 0) (by decide) (fun x503 hx503 => ?_)
  refine ex_isA oq_X12_fitting_5 (fun L504 gL504_2 kL504 => ?_)
  have gL504_0 : cv_get L504 0 = some (cv_r 111) := kL504 0 _ (by decide) (fun q => absurd q (by decide)) rfl
  have gL504_1 : cv_get L504 1 = some (cv_i g) := kL504 1 _ (by decide) (fun _ => rfl) rfl
  refine ex_ic oq_X12_fitting_6 (m := 0) (by decide) (fun x505 hx505 => ?_)
  refine ex_isA oq_X12_fitting_7 (fun L506 gL506_3 kL506 => ?_)
  have gL506_2 : cv_get L506 2 = some (cv_i x503) := kL506 2 _ (by decide) (fun _ => rfl) gL504_2
  have gL506_0 : cv_get L506 0 = some (cv_r 111) := kL506 0 _ (by decide) (fun q => absurd q (by decide)) gL504_0
  have gL506_1 : cv_get L506 1 = some (cv_i g) := kL506 1 _ (by decide) (fun q => absurd q (by decide)) gL504_1
  have e8 : x505.toInt.toNat = 0 := by omega
  exact ft_8 hX hlc hif hP g g0 g1 g2 hfin _ x503 x505 h501 Th501 Fh501 L506 gL506_0 gL506_1 gL506_2 gL506_3 (by omega) (by omega) (by omega) (by rw [e8, hx503]; decide) (Nat.le_refl _)
end SPL
