/-! ===== a line on a gate: the class ===== -/
theorem zvl_q {t : Nat → Int} {n p : Nat} {lo hi : Int} {α : Type} {S : (Int × Nat) ⊕ Nat} {z : (Int × Nat) ⊕ (Int × Nat)} {z' : (Int × Nat) ⊕ (α × Nat)} {f : Nat → (Int × Nat) ⊕ (α × Nat)} (h : zbd S (zn t n lo hi) = z) (h' : zbd (zst z) f = z') (e : zst z' = .inr p) : lo ≤ zvl z ∧ zvl z ≤ hi := by
  obtain ⟨v, rfl⟩ := zst_r e
  obtain ⟨q, e1, -⟩ := zbd_r h'
  obtain ⟨v2, rfl⟩ := zst_r e1
  obtain ⟨q2, -, e3⟩ := zbd_r h
  exact zn_rg e3
section TZ
variable {G : Int} {X : cv_X} {Q : cv_O → Prop} {t : Nat → Int}
theorem zpt_ge {n p : Nat} {hh : Int} {cn : List Int} {m cm v q : Nat} (hp : p ≤ n) (e : zpt t n hh cn m cm p = .inr (v, q)) : zx t n p ≤ q ∧ q ≤ n := by
  unfold zpt at e
  exact zhs_ge (zx_le hp) (ifl e)
theorem oq_X5_readGate_0 : cw_ho 67 0 (.aload_n 0) 1 0 0 0 := rfl
theorem oq_X5_readGate_1 : cw_ho 67 1 (.getfield 33) 3 5 2 4 := rfl
theorem oq_X5_readGate_4 : cw_ho 67 4 (.getfield 124) 3 4 9 0 := rfl
theorem oq_X5_readGate_7 : cw_ho 67 7 (.istore_n 1) 1 0 0 0 := rfl
theorem oq_X5_readGate_8 : cw_ho 67 8 (.iload_n 1) 1 0 0 0 := rfl
theorem oq_X5_readGate_9 : cw_ho 67 9 (.ifCond .lt 8) 3 0 0 0 := rfl
theorem oq_X5_readGate_12 : cw_ho 67 12 (.iload_n 1) 1 0 0 0 := rfl
theorem oq_X5_readGate_13 : cw_ho 67 13 (.iconst 4) 1 0 0 0 := rfl
theorem oq_X5_readGate_14 : cw_ho 67 14 (.if_icmp .lt 10) 3 0 0 0 := rfl
theorem oq_X5_readGate_17 : cw_ho 67 17 (.aload_n 0) 1 0 0 0 := rfl
theorem oq_X5_readGate_18 : cw_ho 67 18 (.iconst 2) 1 0 0 0 := rfl
theorem oq_X5_readGate_19 : cw_ho 67 19 (.invokevirtual 74) 3 61 1 5 := rfl
theorem oq_X5_readGate_22 : cw_ho 67 22 (.pop) 1 0 0 0 := rfl
theorem oq_X5_readGate_23 : cw_ho 67 23 (.return_) 1 0 0 0 := rfl
theorem oq_X5_readGate_24 : cw_ho 67 24 (.aload_n 0) 1 0 0 0 := rfl
theorem oq_X5_readGate_25 : cw_ho 67 25 (.getfield 20) 3 5 0 4 := rfl
theorem oq_X5_readGate_28 : cw_ho 67 28 (.invokevirtual 82) 3 78 0 6 := rfl
theorem oq_X5_readGate_31 : cw_ho 67 31 (.aload_n 0) 1 0 0 0 := rfl
theorem oq_X5_readGate_32 : cw_ho 67 32 (.getfield 33) 3 5 2 4 := rfl
theorem oq_X5_readGate_35 : cw_ho 67 35 (.getfield 127) 3 4 7 4 := rfl
theorem oq_X5_readGate_38 : cw_ho 67 38 (.iload_n 1) 1 0 0 0 := rfl
theorem oq_X5_readGate_39 : cw_ho 67 39 (.aaload) 1 0 0 0 := rfl
theorem oq_X5_readGate_40 : cw_ho 67 40 (.astore_n 2) 1 0 0 0 := rfl
theorem oq_X5_readGate_41 : cw_ho 67 41 (.aload_n 0) 1 0 0 0 := rfl
theorem oq_X5_readGate_42 : cw_ho 67 42 (.getfield 33) 3 5 2 4 := rfl
theorem oq_X5_readGate_45 : cw_ho 67 45 (.getfield 131) 3 4 8 4 := rfl
theorem oq_X5_readGate_48 : cw_ho 67 48 (.iload_n 1) 1 0 0 0 := rfl
theorem oq_X5_readGate_49 : cw_ho 67 49 (.aload_n 0) 1 0 0 0 := rfl
theorem oq_X5_readGate_50 : cw_ho 67 50 (.aload_n 0) 1 0 0 0 := rfl
theorem oq_X5_readGate_51 : cw_ho 67 51 (.getfield 33) 3 5 2 4 := rfl
theorem oq_X5_readGate_54 : cw_ho 67 54 (.getfield 131) 3 4 8 4 := rfl
theorem oq_X5_readGate_57 : cw_ho 67 57 (.iload_n 1) 1 0 0 0 := rfl
theorem oq_X5_readGate_58 : cw_ho 67 58 (.invokevirtual 134) 3 64 2 5 := rfl
theorem oq_X5_readGate_61 : cw_ho 67 61 (.iastore) 1 0 0 0 := rfl
theorem oq_X5_readGate_62 : cw_ho 67 62 (.aload_n 2) 1 0 0 0 := rfl
theorem oq_X5_readGate_63 : cw_ho 67 63 (.aload_n 0) 1 0 0 0 := rfl
theorem oq_X5_readGate_64 : cw_ho 67 64 (.bipush 24) 2 0 0 0 := rfl
theorem oq_X5_readGate_66 : cw_ho 67 66 (.sipush 144) 3 0 0 0 := rfl
theorem oq_X5_readGate_69 : cw_ho 67 69 (.invokevirtual 93) 3 63 2 5 := rfl
theorem oq_X5_readGate_72 : cw_ho 67 72 (.putfield 138) 3 7 0 0 := rfl
theorem oq_X5_readGate_75 : cw_ho 67 75 (.aload_n 2) 1 0 0 0 := rfl
theorem oq_X5_readGate_76 : cw_ho 67 76 (.aload_n 0) 1 0 0 0 := rfl
theorem oq_X5_readGate_77 : cw_ho 67 77 (.bipush 24) 2 0 0 0 := rfl
theorem oq_X5_readGate_79 : cw_ho 67 79 (.bipush 72) 2 0 0 0 := rfl
theorem oq_X5_readGate_81 : cw_ho 67 81 (.invokevirtual 93) 3 63 2 5 := rfl
theorem oq_X5_readGate_84 : cw_ho 67 84 (.invokevirtual 143) 3 87 1 7 := rfl
theorem oq_X5_readGate_87 : cw_ho 67 87 (.aload_n 2) 1 0 0 0 := rfl
theorem oq_X5_readGate_88 : cw_ho 67 88 (.aload_n 0) 1 0 0 0 := rfl
theorem oq_X5_readGate_89 : cw_ho 67 89 (.bipush 20) 2 0 0 0 := rfl
theorem oq_X5_readGate_91 : cw_ho 67 91 (.sipush 400) 3 0 0 0 := rfl
theorem oq_X5_readGate_94 : cw_ho 67 94 (.invokevirtual 93) 3 63 2 5 := rfl
theorem oq_X5_readGate_97 : cw_ho 67 97 (.putfield 146) 3 7 2 0 := rfl
theorem oq_X5_readGate_100 : cw_ho 67 100 (.iconst 0) 1 0 0 0 := rfl
theorem oq_X5_readGate_101 : cw_ho 67 101 (.istore_n 3) 1 0 0 0 := rfl
theorem oq_X5_readGate_102 : cw_ho 67 102 (.iload_n 3) 1 0 0 0 := rfl
theorem oq_X5_readGate_103 : cw_ho 67 103 (.sipush 900) 3 0 0 0 := rfl
theorem oq_X5_readGate_106 : cw_ho 67 106 (.if_icmp .gt 35) 3 0 0 0 := rfl
theorem oq_X5_readGate_109 : cw_ho 67 109 (.aload_n 0) 1 0 0 0 := rfl
theorem oq_X5_readGate_110 : cw_ho 67 110 (.getfield 46) 3 5 4 0 := rfl
theorem oq_X5_readGate_113 : cw_ho 67 113 (.ifCond .ne 28) 3 0 0 0 := rfl
theorem oq_X5_readGate_116 : cw_ho 67 116 (.aload_n 0) 1 0 0 0 := rfl
theorem oq_X5_readGate_117 : cw_ho 67 117 (.getfield 20) 3 5 0 4 := rfl
theorem oq_X5_readGate_120 : cw_ho 67 120 (.bipush 9) 2 0 0 0 := rfl
theorem oq_X5_readGate_122 : cw_ho 67 122 (.bipush 16) 2 0 0 0 := rfl
theorem oq_X5_readGate_124 : cw_ho 67 124 (.invokevirtual 97) 3 84 2 6 := rfl
theorem oq_X5_readGate_127 : cw_ho 67 127 (.ifCond .eq 14) 3 0 0 0 := rfl
theorem oq_X5_readGate_130 : cw_ho 67 130 (.aload_n 0) 1 0 0 0 := rfl
theorem oq_X5_readGate_131 : cw_ho 67 131 (.aload_n 2) 1 0 0 0 := rfl
theorem oq_X5_readGate_132 : cw_ho 67 132 (.invokevirtual 149) 3 68 1 5 := rfl
theorem oq_X5_readGate_135 : cw_ho 67 135 (.iinc 3 1) 3 0 0 0 := rfl
theorem oq_X5_readGate_138 : cw_ho 67 138 (.goto (-36)) 3 0 0 0 := rfl
theorem oq_X5_readGate_141 : cw_ho 67 141 (.aload_n 0) 1 0 0 0 := rfl
theorem oq_X5_readGate_142 : cw_ho 67 142 (.getfield 33) 3 5 2 4 := rfl
theorem oq_X5_readGate_145 : cw_ho 67 145 (.iload_n 1) 1 0 0 0 := rfl
theorem oq_X5_readGate_146 : cw_ho 67 146 (.iconst 1) 1 0 0 0 := rfl
theorem oq_X5_readGate_147 : cw_ho 67 147 (.iadd) 1 0 0 0 := rfl
theorem oq_X5_readGate_148 : cw_ho 67 148 (.putfield 124) 3 4 9 0 := rfl
theorem oq_X5_readGate_151 : cw_ho 67 151 (.return_) 1 0 0 0 := rfl
theorem sh_told {b i : Nat} (hb : b = 2 ∨ b = 26) (hi : i < 4) : cw_sh[b + 16 + 2 * i]? = some 7 := by
  rcases hb with rfl | rfl
  · have : ∀ i : Fin 4, cw_sh[2 + 16 + 2 * i.1]? = some 7 := by decide
    exact this ⟨i, hi⟩
  · have : ∀ i : Fin 4, cw_sh[26 + 16 + 2 * i.1]? = some 7 := by decide
    exact this ⟨i, hi⟩
theorem gt_x {h0 : cv_H} {n : Nat} {b : Nat} (hb : b = 2 ∨ b = 26) (hpl : zPL b h0) {K : Nat} (hK7 : cw_sh[K]? = some 7) {l l' : List Int} {N : Int32} (hN : N.toInt = l.length) (hlm : l.length < 4) {E : (Int × Nat) ⊕ Nat} (hQ : ∀ h', cw_T G h' → cw_Fr cw_Ds cw_sh kk_X5_readGate.2.2.2.2.2.1 h0 h' → zOT K h0 h' → zCs t n E h' → ri_at h' b 9 = l.length + 1 → zNm h' (b + 7) 0 l' → Q (none, h')) (h : cv_H) {L : cv_L} (hT : cw_T G h) (Fh : cw_Fr cw_Ds cw_sh kk_X5_readGate.2.2.2.2.2.1 h0 h) (hS : zCs t n E h) (hOT : zOT K h0 h) (hnm : zNm h (b + 7) 0 l') (g0 : cv_get L 0 = some (cv_r 50)) (g1 : cv_get L 1 = some (cv_i N)) : cw_X X 67 Q 141 L [] h := by
  have Fh0 : cw_Fr cw_Ds cw_sh kk_X5_readGate.2.2.2.2.2.1 h0 h0 := cw_Fr_refl
  have hPL : ∀ h, cw_Fr cw_Ds cw_sh kk_X5_readGate.2.2.2.2.2.1 h0 h → zPL b h := fun h F => zPL_fr hb F (by decide +kernel) hpl
  have hb4 : cw_sh[b]? = some 4 := by rcases hb with rfl | rfl <;> rfl
  have hkb1 : cw_sh[b + 1]? = some 28 := by rcases hb with rfl | rfl <;> rfl
  have hkb2 : cw_sh[b + 2]? = some 29 := by rcases hb with rfl | rfl <;> rfl
  have hkb3 : cw_sh[b + 3]? = some 30 := by rcases hb with rfl | rfl <;> rfl
  have hkb4 : cw_sh[b + 4]? = some 31 := by rcases hb with rfl | rfl <;> rfl
  have hkb5 : cw_sh[b + 5]? = some 32 := by rcases hb with rfl | rfl <;> rfl
  have hkb6 : cw_sh[b + 6]? = some 33 := by rcases hb with rfl | rfl <;> rfl
  have hkb7 : cw_sh[b + 7]? = some 34 := by rcases hb with rfl | rfl <;> rfl
  have hkb8 : cw_sh[b + 8]? = some 35 := by rcases hb with rfl | rfl <;> rfl
  have hkb9 : cw_sh[b + 9]? = some 36 := by rcases hb with rfl | rfl <;> rfl
  have hkb10 : cw_sh[b + 10]? = some 37 := by rcases hb with rfl | rfl <;> rfl
  have hkb11 : cw_sh[b + 11]? = some 38 := by rcases hb with rfl | rfl <;> rfl
  have hkb12 : cw_sh[b + 12]? = some 39 := by rcases hb with rfl | rfl <;> rfl
  have hkb13 : cw_sh[b + 13]? = some 40 := by rcases hb with rfl | rfl <;> rfl
  have hkb14 : cw_sh[b + 14]? = some 41 := by rcases hb with rfl | rfl <;> rfl
  have hkb15 : cw_sh[b + 15]? = some 42 := by rcases hb with rfl | rfl <;> rfl
  refine ex_al oq_X5_readGate_141 g0 ?_
  refine ex_gf oq_X5_readGate_142 hT (k := 50) (d := 5) rfl rfl ((hPL _ Fh).1) ?_
  refine ex_il oq_X5_readGate_145 g1 ?_
  refine ex_ic oq_X5_readGate_146 (m := 1) (by decide) (fun x51 hx51 => ?_)
  refine ex_add oq_X5_readGate_147 (by omega) (fun x52 hx52 => ?_)
  refine ex_pfi oq_X5_readGate_148 hT (k := b) (d := 4) hb4 rfl rfl (by omega) (by omega) (fun h53 Th53 wh53 => ?_)
  have Fh53 : cw_Fr cw_Ds cw_sh kk_X5_readGate.2.2.2.2.2.1 h0 h53 := cw_Fr_tr Fh (cw_Fr_wrf wh53 (k := b) (d := 4) hb4 rfl (by decide +kernel))
  have eh53_b_9 : ri_at h53 b 9 = x52.toInt := ri_self wh53
  have Sh53 := zCs_wr (d := 4) (k := b) wh53 hb4 hS (.inl ⟨by decide, by decide⟩)
  have Oh53 := zOT_d (d := 4) (k := b) wh53 hb4 (by decide) hOT
  exact ex_retv oq_X5_readGate_151 rfl (hQ h53 Th53 Fh53 Oh53 Sh53 (by omega) (zNm_eq hnm (fun i => (ri_ne wh53 (.inl (cw_kne (k := (b + 7)) (d := 34) (k' := b) (d' := 4) hkb7 hb4 (by decide)))))))
set_option maxHeartbeats 8000000 in
theorem gt_lp {h0 : cv_H} {n : Nat} (ht : ∀ i, t i = ri_at h0 1 i % 256) (hwd : ∀ i, i < 34 → ri_at h0 52 i = tz_wc.getD i 0) (hn9 : n ≤ 900)  {b : Nat} (hb : b = 2 ∨ b = 26) (hpl : zPL b h0) {K : Nat} (hK7 : cw_sh[K]? = some 7) {cn : List Int} (hcc : ri_at h0 b 19 = cn.length) (hc6 : cn.length ≤ 6) (hcl : zNm h0 (b + 12) 0 cn) {l l' : List Int} {N : Int32} (hN : N.toInt = l.length) (hlm : l.length < 4) {E : (Int × Nat) ⊕ Nat} (hQ : ∀ h', cw_T G h' → cw_Fr cw_Ds cw_sh kk_X5_readGate.2.2.2.2.2.1 h0 h' → zOT K h0 h' → zCs t n E h' → ri_at h' b 9 = l.length + 1 → zNm h' (b + 7) 0 l' → Q (none, h')) :
    ∀ (u i : Nat) (L : cv_L) (I : Int32) (S : (Int × Nat) ⊕ Nat) (hh : Int) (m cm : Nat) (h : cv_H), i + u = 901 → cw_T G h → cw_Fr cw_Ds cw_sh kk_X5_readGate.2.2.2.2.2.1 h0 h → zCs t n S h → zst (zbd S (zgp t n hh cn u m cm)) = E → (∀ p, S = .inr p → (24 ≤ hh ∧ hh ≤ 72) ∧ n < u + p ∧ ri_at h K 1 = hh ∧ ri_at h K 14 = cm ∧ cm < 64 ∧ ri_at h K 15 = zpm m ∧ m < 256) → zOT K h0 h → zNm h (b + 7) 0 l' → I.toInt = i → cv_get L 0 = some (cv_r 50) → cv_get L 1 = some (cv_i N) → cv_get L 2 = some (cv_r K) → cv_get L 3 = some (cv_i I) → cw_X X 67 Q 102 L [] h := by
  have Fh0 : cw_Fr cw_Ds cw_sh kk_X5_readGate.2.2.2.2.2.1 h0 h0 := cw_Fr_refl
  have hA : ∀ h, cw_Fr cw_Ds cw_sh kk_X5_readGate.2.2.2.2.2.1 h0 h → ∀ i, ri_at h 1 i = ri_at h0 1 i := fun h F i => ri_frr F (k := 1) (d := 13) rfl rfl (by decide +kernel)
  have hB : ∀ h, cw_Fr cw_Ds cw_sh kk_X5_readGate.2.2.2.2.2.1 h0 h → ∀ i, ri_at h 52 i = ri_at h0 52 i := fun h F i => ri_frr F (k := 52) (d := 43) rfl rfl (by decide +kernel)
  have hPL : ∀ h, cw_Fr cw_Ds cw_sh kk_X5_readGate.2.2.2.2.2.1 h0 h → zPL b h := fun h F => zPL_fr hb F (by decide +kernel) hpl
  have hb4 : cw_sh[b]? = some 4 := by rcases hb with rfl | rfl <;> rfl
  have hkb1 : cw_sh[b + 1]? = some 28 := by rcases hb with rfl | rfl <;> rfl
  have hkb2 : cw_sh[b + 2]? = some 29 := by rcases hb with rfl | rfl <;> rfl
  have hkb3 : cw_sh[b + 3]? = some 30 := by rcases hb with rfl | rfl <;> rfl
  have hkb4 : cw_sh[b + 4]? = some 31 := by rcases hb with rfl | rfl <;> rfl
  have hkb5 : cw_sh[b + 5]? = some 32 := by rcases hb with rfl | rfl <;> rfl
  have hkb6 : cw_sh[b + 6]? = some 33 := by rcases hb with rfl | rfl <;> rfl
  have hkb7 : cw_sh[b + 7]? = some 34 := by rcases hb with rfl | rfl <;> rfl
  have hkb8 : cw_sh[b + 8]? = some 35 := by rcases hb with rfl | rfl <;> rfl
  have hkb9 : cw_sh[b + 9]? = some 36 := by rcases hb with rfl | rfl <;> rfl
  have hkb10 : cw_sh[b + 10]? = some 37 := by rcases hb with rfl | rfl <;> rfl
  have hkb11 : cw_sh[b + 11]? = some 38 := by rcases hb with rfl | rfl <;> rfl
  have hkb12 : cw_sh[b + 12]? = some 39 := by rcases hb with rfl | rfl <;> rfl
  have hkb13 : cw_sh[b + 13]? = some 40 := by rcases hb with rfl | rfl <;> rfl
  have hkb14 : cw_sh[b + 14]? = some 41 := by rcases hb with rfl | rfl <;> rfl
  have hkb15 : cw_sh[b + 15]? = some 42 := by rcases hb with rfl | rfl <;> rfl
  have hC19 : ∀ h, cw_Fr cw_Ds cw_sh kk_X5_readGate.2.2.2.2.2.1 h0 h → ri_at h b 19 = ri_at h0 b 19 := fun h F => ri_frf F (k := b) (d := 4) hb4 rfl (by decide +kernel)
  have hC12 : ∀ h, cw_Fr cw_Ds cw_sh kk_X5_readGate.2.2.2.2.2.1 h0 h → ∀ i, ri_at h (b + 12) i = ri_at h0 (b + 12) i := fun h F i => ri_frr F (k := b + 12) (d := 39) hkb12 rfl (by decide +kernel)
  intro u
  induction u with
  | zero =>
    intro i L I S hh m cm h hiu hT Fh hS hE hI hOT hnm hii g0 g1 g2 g3
    cases S with
    | inl e =>
      obtain ⟨f, a⟩ := e
      have hf := hS.1
      have hf1 := hS.2.2
      refine ex_il oq_X5_readGate_102 g3 ?_
      refine ex_si oq_X5_readGate_103 (m := 900) (by decide) (fun x101 hx101 => ?_)
      refine ex_if oq_X5_readGate_106 (t := 141) rfl rfl (fun (c102 : x101.toInt < I.toInt) => ?_) (fun (c102 : ¬ (x101.toInt < I.toInt)) => ?_)
      · exact gt_x hb hpl hK7 hN hlm hQ h hT Fh (by rw [← hE]; exact hS) hOT (zNm_eq hnm (fun i => rfl)) g0 g1
      · exfalso; omega
    | inr p =>
      have h1 := (hI p rfl).2.1
      have h2 := hS.1
      exfalso
      omega
  | succ u ih =>
    intro i L I S hh m cm h hiu hT Fh hS hE hI hOT hnm hii g0 g1 g2 g3
    cases S with
    | inl e =>
      obtain ⟨f, a⟩ := e
      have hf := hS.1
      have hf1 := hS.2.2
      refine ex_il oq_X5_readGate_102 g3 ?_
      refine ex_si oq_X5_readGate_103 (m := 900) (by decide) (fun x101 hx101 => ?_)
      refine ex_if oq_X5_readGate_106 (t := 141) rfl rfl (fun (c102 : x101.toInt < I.toInt) => ?_) (fun (c102 : ¬ (x101.toInt < I.toInt)) => ?_)
      · exfalso; omega
      · refine ex_al oq_X5_readGate_109 g0 ?_
        obtain ⟨x103, ax103, rx103, lx103, ux103⟩ := ri_fld (k := 50) (d := 5) (f := 4) hT rfl rfl rfl
        try dsimp only at lx103 ux103
        refine ex_gf oq_X5_readGate_110 hT (k := 50) (d := 5) rfl rfl ax103 ?_
        clear lx103 ux103
        have rx103 := (rx103.symm.trans hf : x103.toInt = f)
        refine ex_if0 oq_X5_readGate_113 (t := 141) rfl rfl (fun (c104 : ¬ x103.toInt = 0) => ?_) (fun (c104 : ¬ (¬ x103.toInt = 0)) => ?_)
        · exact gt_x hb hpl hK7 hN hlm hQ h hT Fh (by rw [← hE]; exact hS) hOT (zNm_eq hnm (fun i => rfl)) g0 g1
        · exfalso; omega
    | inr p =>
      obtain ⟨hih, hif, hi1, hi14, hicm, hi15, him⟩ := hI p rfl
      have hpn := hS.1
      have hwb := zhw_b (k := zk t n p) (w := zw t n p)
      have hxn := zx_gt (t := t) (n := n) (p := p) hpn
      refine ex_il oq_X5_readGate_102 g3 ?_
      refine ex_si oq_X5_readGate_103 (m := 900) (by decide) (fun x201 hx201 => ?_)
      refine ex_if oq_X5_readGate_106 (t := 141) rfl rfl (fun (c202 : x201.toInt < I.toInt) => ?_) (fun (c202 : ¬ (x201.toInt < I.toInt)) => ?_)
      · exfalso; omega
      · refine ex_al oq_X5_readGate_109 g0 ?_
        obtain ⟨pnh, yah, ybh, ych, ydh, yfh⟩ := zCs_at hS
        obtain ⟨kch, ykh⟩ : ∃ k, ri_at h 51 4 = k := ⟨_, rfl⟩
        obtain ⟨vch, yvh⟩ : ∃ k, ri_at h 51 6 = k := ⟨_, rfl⟩
        rw [ykh, yvh] at ydh
        replace ydh := zhd_i ydh
        have zlh := zx_le (t := t) (n := n) (p := p) (by omega)
        obtain ⟨x203, ax203, rx203, lx203, ux203⟩ := ri_fld (k := 50) (d := 5) (f := 4) hT rfl rfl rfl
        try dsimp only at lx203 ux203
        refine ex_gf oq_X5_readGate_110 hT (k := 50) (d := 5) rfl rfl ax203 ?_
        clear lx203 ux203
        have rx203 := (rx203.symm.trans yfh : x203.toInt = 0)
        refine ex_if0 oq_X5_readGate_113 (t := 141) rfl rfl (fun (c204 : ¬ x203.toInt = 0) => ?_) (fun (c204 : ¬ (¬ x203.toInt = 0)) => ?_)
        · exfalso; omega
        · replace c204 : x203.toInt = 0 := by omega
          refine ex_al oq_X5_readGate_116 g0 ?_
          refine ex_gf oq_X5_readGate_117 hT (k := 50) (d := 5) rfl rfl (ri_ref (k := 50) (k' := 51) (d := 5) (f := 0) hT rfl rfl rfl (by decide) (ri_uniq (by decide +kernel))) ?_
          refine ex_bi oq_X5_readGate_120 (m := 9) (by decide) (fun x205 hx205 => ?_)
          refine ex_bi oq_X5_readGate_122 (m := 16) (by decide) (fun x206 hx206 => ?_)
          refine ex_cv oq_X5_readGate_124 (by decide) hT (k := 51) (d := 6) (as := [cv_i x205, cv_i x206]) (stk := []) rfl rfl rfl rfl rfl rfl ⟨rfl, rfl⟩ (R := fun o => ∃ x : Int32, o = (some (cv_i x), h) ∧ (x.toInt = 1 ∧ (kch = 2 ∧ x205.toInt ≤ vch ∧ vch ≤ x206.toInt) ∨ x.toInt = 0 ∧ ¬ (kch = 2 ∧ x205.toInt ≤ vch ∧ vch ≤ x206.toInt))) (ct_isWordFrom hT x205 x206 ykh yvh (fun x q => ⟨x, rfl, q⟩)) (fun o ho => ?_)
          obtain ⟨x207, rfl, dx207⟩ := ho
          show cw_X _ _ _ _ _ [cv_i x207] h
          rw [hx205] at dx207
          rw [hx206] at dx207
          refine ex_if0 oq_X5_readGate_127 (t := 141) rfl rfl (fun (c208 : x207.toInt = 0) => ?_) (fun (c208 : ¬ (x207.toInt = 0)) => ?_)
          · replace dx207 := bit_n dx207 c208
            have rz := zhw_c (show tz_rel _ _ _ _ from ydh)
            exact gt_x hb hpl hK7 hN hlm hQ h hT Fh (by rw [← hE, show zbd (.inr p) (zgp t n hh cn (u + 1) m cm) = zgp t n hh cn (u + 1) m cm p from rfl, zgp_s, if_pos (by omega)]; exact hS) hOT (zNm_eq hnm (fun i => rfl)) g0 g1
          · replace c208 : ¬ x207.toInt = 0 := by omega
            replace dx207 := bit_y dx207 c208
            have rz := zhw_c (show tz_rel _ _ _ _ from ydh)
            refine ex_al oq_X5_readGate_130 g0 ?_
            refine ex_al oq_X5_readGate_131 g2 ?_
            refine ex_cv oq_X5_readGate_132 (by decide) hT (k := 50) (d := 5) (as := [cv_r K]) (stk := []) rfl rfl rfl rfl rfl rfl ⟨rfl, rfl⟩ (R := fun o => ∃ hb : cv_H, o = (none, hb) ∧ cw_T G hb ∧ cw_Fr cw_Ds cw_sh kk_X5_readPart.2.2.2.2.2.1 h hb ∧ zOT K h hb ∧ zCs t n (zst (zpt t n hh cn m cm p)) hb ∧ (∀ v q, zpt t n hh cn m cm p = .inr (v, q) → v < 64 ∧ ri_at hb K 14 = v ∧ ri_at hb K 15 = zpm (m ||| 2 ^ (zhw (zk t n p) (zw t n p)).toNat) ∧ ri_at hb K 1 = hh)) (ct_readPart (t := t) (n := n) (p := p) (fun i => by rw [ht, ← hA _ Fh]) (fun i hi => by rw [hB _ Fh]; exact hwd i hi) hn9 hT hb (hPL _ Fh) hK7 hS (fun kc vc a b => by omega) (cn := cn) ((hC19 _ Fh).trans hcc) hc6 (zNm_eq hcl (hC12 _ Fh)) hi14 hicm hi1 hih hi15 him (fun hb b1 b2 b3 b4 => ⟨hb, rfl, b1, b2, b3, b4⟩)) (fun o ho => ?_)
            obtain ⟨h209, rfl, Th209, Ch209, oh209, Sh209, Dh209⟩ := ho
            show cw_X _ _ _ _ _ [] h209
            have Fh209 : cw_Fr cw_Ds cw_sh kk_X5_readGate.2.2.2.2.2.1 h0 h209 := cw_Fr_tr Fh (cw_Fr_mono (by decide +kernel) Ch209)
            have Oh209 := zOT_tr hOT oh209
            refine ex_incA oq_X5_readGate_135 (v := I) (m := 1) g3 (by decide) (by omega) (fun L211 x210 hx210 gL211_3 kL211 => ?_)
            have gL211_0 : cv_get L211 0 = some (cv_r 50) := kL211 0 _ (by decide) (fun q => absurd q (by decide)) g0
            have gL211_1 : cv_get L211 1 = some (cv_i N) := kL211 1 _ (by decide) (fun q => absurd q (by decide)) g1
            have gL211_2 : cv_get L211 2 = some (cv_r K) := kL211 2 _ (by decide) (fun _ => rfl) g2
            refine ex_go oq_X5_readGate_138 (t := 102) rfl rfl ?_
            rw [show zbd (.inr p) (zgp t n hh cn (u + 1) m cm) = zgp t n hh cn (u + 1) m cm p from rfl, zgp_p (by omega)] at hE
            cases ez : zpt t n hh cn m cm p with
            | inl e =>
              rw [ez] at Sh209 hE
              exact ih (i + 1) L211 x210 (.inl e) hh m cm h209 (by omega) Th209 Fh209 Sh209 hE (fun p q => nomatch q) Oh209 (zNm_eq hnm (fun i => (ri_frr Ch209 (k := (b + 7)) (d := 34) hkb7 rfl (by decide +kernel)))) (by omega) gL211_0 gL211_1 gL211_2 gL211_3
            | inr cq =>
              obtain ⟨c, q⟩ := cq
              have hD := Dh209 c q ez
              have hq := zpt_ge hpn ez
              rw [ez] at Sh209 hE
              exact ih (i + 1) L211 x210 (.inr q) hh (m ||| 2 ^ (zhw (zk t n p) (zw t n p)).toNat) c h209 (by omega) Th209 Fh209 Sh209 hE (fun p2 q2 => by cases q2; exact ⟨hih, by omega, hD.2.2.2, hD.2.1, hD.1, hD.2.2.1, bt_256 him (by omega)⟩) Oh209 (zNm_eq hnm (fun i => (ri_frr Ch209 (k := (b + 7)) (d := 34) hkb7 rfl (by decide +kernel)))) (by omega) gL211_0 gL211_1 gL211_2 gL211_3
set_option maxHeartbeats 8000000 in
theorem ct_readGate {h0 : cv_H} {n p : Nat} (ht : ∀ i, t i = ri_at h0 1 i % 256) (hwd : ∀ i, i < 34 → ri_at h0 52 i = tz_wc.getD i 0) (hn9 : n ≤ 900) (hT : cw_T G h0) {b : Nat} (hb : b = 2 ∨ b = 26) (hpl : zPL b h0) (hS : zCs t n (.inr p) h0) {l : List Int} (hc : ri_at h0 b 9 = l.length) (hlm : l.length ≤ 4) (hl : zNm h0 (b + 7) 0 l) {cn : List Int} (hcc : ri_at h0 b 19 = cn.length) (hc6 : cn.length ≤ 6) (hcl : zNm h0 (b + 12) 0 cn) (hto : ∀ i, l.length ≤ i → i < 4 → ri_at h0 (b + 16 + 2 * i) 14 = 0 ∧ ri_at h0 (b + 16 + 2 * i) 15 = 0) (hQ : ∀ h', cw_T G h' → cw_Fr cw_Ds cw_sh kk_X5_readGate.2.2.2.2.2.1 h0 h' → zCs t n (zst (zgt t n l cn p)) h' ∧ (∀ v q, zgt t n l cn p = .inr (v, q) → ri_at h' b 9 = l.length + 1 ∧ zNm h' (b + 7) 0 (l ++ [v]) ∧ zOT (b + 16 + 2 * l.length) h0 h') → Q (none, h')) : cw_X X 67 Q 0 (cv_ent 0 [cv_r 50]) [] h0 := by
  obtain ⟨K, hKe⟩ : ∃ K, K = b + 16 + 2 * l.length := ⟨_, rfl⟩
  have hOT : zOT K h0 h0 := zOT_0
  have hP0 : (0 : Int) = ((zpm 0 : Nat) : Int) := by decide
  have Fh0 : cw_Fr cw_Ds cw_sh kk_X5_readGate.2.2.2.2.2.1 h0 h0 := cw_Fr_refl
  have hA : ∀ h, cw_Fr cw_Ds cw_sh kk_X5_readGate.2.2.2.2.2.1 h0 h → ∀ i, ri_at h 1 i = ri_at h0 1 i := fun h F i => ri_frr F (k := 1) (d := 13) rfl rfl (by decide +kernel)
  have hB : ∀ h, cw_Fr cw_Ds cw_sh kk_X5_readGate.2.2.2.2.2.1 h0 h → ∀ i, ri_at h 52 i = ri_at h0 52 i := fun h F i => ri_frr F (k := 52) (d := 43) rfl rfl (by decide +kernel)
  have hPL : ∀ h, cw_Fr cw_Ds cw_sh kk_X5_readGate.2.2.2.2.2.1 h0 h → zPL b h := fun h F => zPL_fr hb F (by decide +kernel) hpl
  have hb4 : cw_sh[b]? = some 4 := by rcases hb with rfl | rfl <;> rfl
  have hkb1 : cw_sh[b + 1]? = some 28 := by rcases hb with rfl | rfl <;> rfl
  have hkb2 : cw_sh[b + 2]? = some 29 := by rcases hb with rfl | rfl <;> rfl
  have hkb3 : cw_sh[b + 3]? = some 30 := by rcases hb with rfl | rfl <;> rfl
  have hkb4 : cw_sh[b + 4]? = some 31 := by rcases hb with rfl | rfl <;> rfl
  have hkb5 : cw_sh[b + 5]? = some 32 := by rcases hb with rfl | rfl <;> rfl
  have hkb6 : cw_sh[b + 6]? = some 33 := by rcases hb with rfl | rfl <;> rfl
  have hkb7 : cw_sh[b + 7]? = some 34 := by rcases hb with rfl | rfl <;> rfl
  have hkb8 : cw_sh[b + 8]? = some 35 := by rcases hb with rfl | rfl <;> rfl
  have hkb9 : cw_sh[b + 9]? = some 36 := by rcases hb with rfl | rfl <;> rfl
  have hkb10 : cw_sh[b + 10]? = some 37 := by rcases hb with rfl | rfl <;> rfl
  have hkb11 : cw_sh[b + 11]? = some 38 := by rcases hb with rfl | rfl <;> rfl
  have hkb12 : cw_sh[b + 12]? = some 39 := by rcases hb with rfl | rfl <;> rfl
  have hkb13 : cw_sh[b + 13]? = some 40 := by rcases hb with rfl | rfl <;> rfl
  have hkb14 : cw_sh[b + 14]? = some 41 := by rcases hb with rfl | rfl <;> rfl
  have hkb15 : cw_sh[b + 15]? = some 42 := by rcases hb with rfl | rfl <;> rfl
  refine ex_al oq_X5_readGate_0 rfl ?_
  refine ex_gf oq_X5_readGate_1 hT (k := 50) (d := 5) rfl rfl ((hPL _ Fh0).1) ?_
  obtain ⟨x301, ax301, rx301, lx301, ux301⟩ := ri_fld (k := b) (d := 4) (f := 9) hT hb4 rfl rfl
  try dsimp only at lx301 ux301
  refine ex_gf oq_X5_readGate_4 hT (k := b) (d := 4) hb4 rfl ax301 ?_
  have rx301 := (rx301.symm.trans hc : x301.toInt = (l.length : Int))
  refine ex_isA oq_X5_readGate_7 (fun L302 gL302_1 kL302 => ?_)
  have gL302_0 : cv_get L302 0 = some (cv_r 50) := kL302 0 _ (by decide) (fun _ => rfl) rfl
  refine ex_il oq_X5_readGate_8 gL302_1 ?_
  refine ex_if0 oq_X5_readGate_9 (t := 17) rfl rfl (fun (c303 : x301.toInt < 0) => ?_) (fun (c303 : ¬ (x301.toInt < 0)) => ?_)
  · exfalso; omega
  · refine ex_il oq_X5_readGate_12 gL302_1 ?_
    refine ex_ic oq_X5_readGate_13 (m := 4) (by decide) (fun x304 hx304 => ?_)
    refine ex_if oq_X5_readGate_14 (t := 24) rfl rfl (fun (c305 : x301.toInt < x304.toInt) => ?_) (fun (c305 : ¬ (x301.toInt < x304.toInt)) => ?_)
    · refine ex_al oq_X5_readGate_24 gL302_0 ?_
      refine ex_gf oq_X5_readGate_25 hT (k := 50) (d := 5) rfl rfl (ri_ref (k := 50) (k' := 51) (d := 5) (f := 0) hT rfl rfl rfl (by decide) (ri_uniq (by decide +kernel))) ?_
      have hK7 : cw_sh[K]? = some 7 := by rw [hKe]; exact sh_told hb (by omega)
      have ht0 := hto l.length (Nat.le_refl _) (by omega)
      rw [← hKe] at ht0
      refine ex_cv oq_X5_readGate_28 (by decide) hT (k := 51) (d := 6) (as := []) (stk := []) rfl rfl rfl rfl rfl rfl ⟨rfl, rfl⟩ (R := fun o => ∃ hb : cv_H, o = (none, hb) ∧ cw_T G hb ∧ cw_Fr cw_Ds cw_sh kk_X6_step.2.2.2.2.2.1 h0 hb ∧ zCs t n (.inr (zx t n p)) hb) (ct_stepC (t := t) (n := n) (p := p) (fun i => by rw [ht, ← hA _ Fh0]) (fun i hi => by rw [hB _ Fh0]; exact hwd i hi) hn9 hT hS (fun hb b1 b2 b3 => ⟨hb, rfl, b1, b2, b3⟩)) (fun o ho => ?_)
      obtain ⟨h306, rfl, Th306, Ch306, Sh306⟩ := ho
      show cw_X _ _ _ _ _ [] h306
      have Fh306 : cw_Fr cw_Ds cw_sh kk_X5_readGate.2.2.2.2.2.1 h0 h306 := cw_Fr_tr Fh0 (cw_Fr_mono (by decide +kernel) Ch306)
      have eh306_b_9 : ri_at h306 b 9 = (l.length : Int) := (ri_frf Ch306 (k := b) (d := 4) hb4 rfl (by decide +kernel)).trans hc
      have eh306_K_14 : ri_at h306 K 14 = ri_at h0 K 14 := ri_frf Ch306 (k := K) (d := 7) hK7 rfl (by decide +kernel)
      have eh306_K_15 : ri_at h306 K 15 = ri_at h0 K 15 := ri_frf Ch306 (k := K) (d := 7) hK7 rfl (by decide +kernel)
      have eh306_K_1 : ri_at h306 K 1 = ri_at h0 K 1 := ri_frf Ch306 (k := K) (d := 7) hK7 rfl (by decide +kernel)
      have Oh306 := zOT_fr Ch306 (by decide +kernel) hOT
      obtain ⟨pnh306, yah306, ybh306, ych306, ydh306, yfh306⟩ := zCs_at Sh306
      obtain ⟨kch306, ykh306⟩ : ∃ k, ri_at h306 51 4 = k := ⟨_, rfl⟩
      obtain ⟨vch306, yvh306⟩ : ∃ k, ri_at h306 51 6 = k := ⟨_, rfl⟩
      rw [ykh306, yvh306] at ydh306
      replace ydh306 := zhd_i ydh306
      have zlh306 := zx_le (t := t) (n := n) (p := (zx t n p)) (by omega)
      refine ex_al oq_X5_readGate_31 gL302_0 ?_
      refine ex_gf oq_X5_readGate_32 Th306 (k := 50) (d := 5) rfl rfl ((hPL _ Fh306).1) ?_
      refine ex_gf oq_X5_readGate_35 Th306 (k := b) (d := 4) hb4 rfl ((show cw_at h306 b 7 = some (cv_r (b + 6)) from (hPL _ Fh306).2.1 7 (by decide))) ?_
      refine ex_il oq_X5_readGate_38 gL302_1 ?_
      refine ex_aa oq_X5_readGate_39 Th306 (k := (b + 6)) (d := 33) (j := l.length) hkb6 rfl (by omega) (by omega) (fun k308 ak308 sk308 => ?_)
      have ek308 : K = k308 := by have := ((hPL _ Fh306).2.2 l.length (by omega)).symm.trans ak308; rw [← hKe] at this; cases this; rfl
      subst ek308
      refine ex_asA oq_X5_readGate_40 (fun L309 gL309_2 kL309 => ?_)
      have gL309_1 : cv_get L309 1 = some (cv_i x301) := kL309 1 _ (by decide) (fun _ => rfl) gL302_1
      have gL309_0 : cv_get L309 0 = some (cv_r 50) := kL309 0 _ (by decide) (fun q => absurd q (by decide)) gL302_0
      refine ex_al oq_X5_readGate_41 gL309_0 ?_
      refine ex_gf oq_X5_readGate_42 Th306 (k := 50) (d := 5) rfl rfl ((hPL _ Fh306).1) ?_
      refine ex_gf oq_X5_readGate_45 Th306 (k := b) (d := 4) hb4 rfl ((show cw_at h306 b 8 = some (cv_r (b + 7)) from (hPL _ Fh306).2.1 8 (by decide))) ?_
      refine ex_il oq_X5_readGate_48 gL309_1 ?_
      refine ex_al oq_X5_readGate_49 gL309_0 ?_
      refine ex_al oq_X5_readGate_50 gL309_0 ?_
      refine ex_gf oq_X5_readGate_51 Th306 (k := 50) (d := 5) rfl rfl ((hPL _ Fh306).1) ?_
      refine ex_gf oq_X5_readGate_54 Th306 (k := b) (d := 4) hb4 rfl ((show cw_at h306 b 8 = some (cv_r (b + 7)) from (hPL _ Fh306).2.1 8 (by decide))) ?_
      refine ex_il oq_X5_readGate_57 gL309_1 ?_
      have hlh306 : zNm h306 (b + 7) 0 l := zNm_eq hl (fun i => (ri_frr Ch306 (k := (b + 7)) (d := 34) hkb7 rfl (by decide +kernel)))
      refine ex_cv oq_X5_readGate_58 (by decide) Th306 (k := 50) (d := 5) (as := [cv_r (b + 7), cv_i x301]) (stk := [cv_i x301, cv_r (b + 7)]) rfl rfl rfl rfl rfl rfl ⟨rfl, rfl⟩ (R := fun o => ∃ (x : Int32) (hb : cv_H), o = (some (cv_i x), hb) ∧ cw_T G hb ∧ cw_Fr cw_Ds cw_sh kk_X5_readNewName.2.2.2.2.2.1 h306 hb ∧ zCr t n hb x (zbd (.inr (zx t n p)) (zm t n l))) (ct_nameSG (t := t) (n := n) (l := l) hb (fun i => by rw [ht, ← hA _ Fh306]) (fun i hi => by rw [hB _ Fh306]; exact hwd i hi) hn9 Th306 (by omega) (by omega) hlh306 Sh306 (fun x hb b1 b2 b3 => ⟨x, hb, rfl, b1, b2, b3⟩)) (fun o ho => ?_)
      obtain ⟨x310, h311, rfl, Th311, Ch311, dx310⟩ := ho
      show cw_X _ _ _ _ _ [cv_i x310, cv_i x301, cv_r (b + 7)] h311
      obtain ⟨z1, y1, wx310, Sh311⟩ : ∃ z, (zm t n l) (zx t n p) = z ∧ x310.toInt = zvl z ∧ zCs t n (zst z) h311 := ⟨_, rfl, zCr_i dx310⟩
      clear dx310
      have Fh311 : cw_Fr cw_Ds cw_sh kk_X5_readGate.2.2.2.2.2.1 h0 h311 := cw_Fr_tr Fh306 (cw_Fr_mono (by decide +kernel) Ch311)
      have eh311_b_9 : ri_at h311 b 9 = (l.length : Int) := (ri_frf Ch311 (k := b) (d := 4) hb4 rfl (by decide +kernel)).trans eh306_b_9
      clear eh306_b_9
      have eh311_K_14 : ri_at h311 K 14 = ri_at h0 K 14 := (ri_frf Ch311 (k := K) (d := 7) hK7 rfl (by decide +kernel)).trans eh306_K_14
      clear eh306_K_14
      have eh311_K_15 : ri_at h311 K 15 = ri_at h0 K 15 := (ri_frf Ch311 (k := K) (d := 7) hK7 rfl (by decide +kernel)).trans eh306_K_15
      clear eh306_K_15
      have eh311_K_1 : ri_at h311 K 1 = ri_at h0 K 1 := (ri_frf Ch311 (k := K) (d := 7) hK7 rfl (by decide +kernel)).trans eh306_K_1
      clear eh306_K_1
      have Oh311 := zOT_fr Ch311 (by decide +kernel) Oh306
      clear Oh306
      refine ex_iw1 oq_X5_readGate_61 Th311 (k := (b + 7)) (d := 34) (j := l.length) hkb7 rfl (by omega) (by omega) ⟨(cw_i32 _).1, (cw_i32 _).2⟩ (fun h312 Th312 wh312 => ?_)
      have Fh312 : cw_Fr cw_Ds cw_sh kk_X5_readGate.2.2.2.2.2.1 h0 h312 := cw_Fr_tr Fh311 (cw_Fr_wrr wh312 (k := (b + 7)) (d := 34) hkb7 rfl (by decide +kernel))
      have eh312_b_9 : ri_at h312 b 9 = (l.length : Int) := (ri_ne wh312 (.inl (cw_kne (k := b) (d := 4) (k' := (b + 7)) (d' := 34) hb4 hkb7 (by decide)))).trans eh311_b_9
      clear eh311_b_9
      have eh312_K_14 : ri_at h312 K 14 = ri_at h0 K 14 := (ri_ne wh312 (.inl (cw_kne (k := K) (d := 7) (k' := (b + 7)) (d' := 34) hK7 hkb7 (by decide)))).trans eh311_K_14
      clear eh311_K_14
      have eh312_K_15 : ri_at h312 K 15 = ri_at h0 K 15 := (ri_ne wh312 (.inl (cw_kne (k := K) (d := 7) (k' := (b + 7)) (d' := 34) hK7 hkb7 (by decide)))).trans eh311_K_15
      clear eh311_K_15
      have eh312_K_1 : ri_at h312 K 1 = ri_at h0 K 1 := (ri_ne wh312 (.inl (cw_kne (k := K) (d := 7) (k' := (b + 7)) (d' := 34) hK7 hkb7 (by decide)))).trans eh311_K_1
      clear eh311_K_1
      have Sh312 := zCs_wr (d := 34) (k := (b + 7)) wh312 hkb7 Sh311 (.inl ⟨by decide, by decide⟩)
      have Oh312 := zOT_d (d := 34) (k := (b + 7)) wh312 hkb7 (by decide) Oh311
      clear Oh311
      refine ex_al oq_X5_readGate_62 gL309_2 ?_
      refine ex_al oq_X5_readGate_63 gL309_0 ?_
      refine ex_bi oq_X5_readGate_64 (m := 24) (by decide) (fun x313 hx313 => ?_)
      refine ex_si oq_X5_readGate_66 (m := 144) (by decide) (fun x314 hx314 => ?_)
      refine ex_cv oq_X5_readGate_69 (by decide) Th312 (k := 50) (d := 5) (as := [cv_i x313, cv_i x314]) (stk := [cv_r K]) rfl rfl rfl rfl rfl rfl ⟨rfl, rfl⟩ (R := fun o => ∃ (x : Int32) (hb : cv_H), o = (some (cv_i x), hb) ∧ cw_T G hb ∧ cw_Fr cw_Ds cw_sh kk_X5_readNumber_1.2.2.2.2.2.1 h312 hb ∧ zCr t n hb x (zbd (zst z1) (zn t n x313.toInt x314.toInt))) (ct_readNumber (t := t) (n := n) (fun i => by rw [ht, ← hA _ Fh312]) (fun i hi => by rw [hB _ Fh312]; exact hwd i hi) hn9 Th312 Sh312 x313 x314 (by omega) (by omega) (fun x hb b1 b2 b3 => ⟨x, hb, rfl, b1, b2, b3⟩)) (fun o ho => ?_)
      obtain ⟨x315, h316, rfl, Th316, Ch316, dx315⟩ := ho
      show cw_X _ _ _ _ _ [cv_i x315, cv_r K] h316
      obtain ⟨z2, y2, wx315, Sh316⟩ : ∃ z, zbd (zst z1) (zn t n x313.toInt x314.toInt) = z ∧ x315.toInt = zvl z ∧ zCs t n (zst z) h316 := ⟨_, rfl, zCr_i dx315⟩
      clear dx315
      have Fh316 : cw_Fr cw_Ds cw_sh kk_X5_readGate.2.2.2.2.2.1 h0 h316 := cw_Fr_tr Fh312 (cw_Fr_mono (by decide +kernel) Ch316)
      have eh316_b_9 : ri_at h316 b 9 = (l.length : Int) := (ri_frf Ch316 (k := b) (d := 4) hb4 rfl (by decide +kernel)).trans eh312_b_9
      clear eh312_b_9
      have eh316_K_14 : ri_at h316 K 14 = ri_at h0 K 14 := (ri_frf Ch316 (k := K) (d := 7) hK7 rfl (by decide +kernel)).trans eh312_K_14
      clear eh312_K_14
      have eh316_K_15 : ri_at h316 K 15 = ri_at h0 K 15 := (ri_frf Ch316 (k := K) (d := 7) hK7 rfl (by decide +kernel)).trans eh312_K_15
      clear eh312_K_15
      have eh316_K_1 : ri_at h316 K 1 = ri_at h0 K 1 := (ri_frf Ch316 (k := K) (d := 7) hK7 rfl (by decide +kernel)).trans eh312_K_1
      clear eh312_K_1
      have Oh316 := zOT_fr Ch316 (by decide +kernel) Oh312
      clear Oh312
      have n2 := zvl_n y2
      rw [hx313] at y2 n2
      rw [hx314] at y2 n2
      refine ex_pfi oq_X5_readGate_72 Th316 (k := K) (d := 7) hK7 rfl rfl (cw_i32 _).1 (cw_i32 _).2 (fun h317 Th317 wh317 => ?_)
      have Fh317 : cw_Fr cw_Ds cw_sh kk_X5_readGate.2.2.2.2.2.1 h0 h317 := cw_Fr_tr Fh316 (cw_Fr_wrf wh317 (k := K) (d := 7) hK7 rfl (by decide +kernel))
      have eh317_b_9 : ri_at h317 b 9 = (l.length : Int) := (ri_ne wh317 (.inl (cw_kne (k := b) (d := 4) (k' := K) (d' := 7) hb4 hK7 (by decide)))).trans eh316_b_9
      clear eh316_b_9
      have eh317_K_14 : ri_at h317 K 14 = ri_at h0 K 14 := (ri_ne wh317 (.inr (by decide))).trans eh316_K_14
      clear eh316_K_14
      have eh317_K_15 : ri_at h317 K 15 = ri_at h0 K 15 := (ri_ne wh317 (.inr (by decide))).trans eh316_K_15
      clear eh316_K_15
      have eh317_K_1 : ri_at h317 K 1 = ri_at h0 K 1 := (ri_ne wh317 (.inr (by decide))).trans eh316_K_1
      clear eh316_K_1
      have Sh317 := zCs_wr (d := 7) (k := K) wh317 hK7 Sh316 (.inl ⟨by decide, by decide⟩)
      have Oh317 := zOT_K wh317 Oh316
      clear Oh316
      refine ex_al oq_X5_readGate_75 gL309_2 ?_
      refine ex_al oq_X5_readGate_76 gL309_0 ?_
      refine ex_bi oq_X5_readGate_77 (m := 24) (by decide) (fun x318 hx318 => ?_)
      refine ex_bi oq_X5_readGate_79 (m := 72) (by decide) (fun x319 hx319 => ?_)
      refine ex_cv oq_X5_readGate_81 (by decide) Th317 (k := 50) (d := 5) (as := [cv_i x318, cv_i x319]) (stk := [cv_r K]) rfl rfl rfl rfl rfl rfl ⟨rfl, rfl⟩ (R := fun o => ∃ (x : Int32) (hb : cv_H), o = (some (cv_i x), hb) ∧ cw_T G hb ∧ cw_Fr cw_Ds cw_sh kk_X5_readNumber_1.2.2.2.2.2.1 h317 hb ∧ zCr t n hb x (zbd (zst z2) (zn t n x318.toInt x319.toInt))) (ct_readNumber (t := t) (n := n) (fun i => by rw [ht, ← hA _ Fh317]) (fun i hi => by rw [hB _ Fh317]; exact hwd i hi) hn9 Th317 Sh317 x318 x319 (by omega) (by omega) (fun x hb b1 b2 b3 => ⟨x, hb, rfl, b1, b2, b3⟩)) (fun o ho => ?_)
      obtain ⟨x320, h321, rfl, Th321, Ch321, dx320⟩ := ho
      show cw_X _ _ _ _ _ [cv_i x320, cv_r K] h321
      obtain ⟨z3, y3, wx320, Sh321⟩ : ∃ z, zbd (zst z2) (zn t n x318.toInt x319.toInt) = z ∧ x320.toInt = zvl z ∧ zCs t n (zst z) h321 := ⟨_, rfl, zCr_i dx320⟩
      clear dx320
      have Fh321 : cw_Fr cw_Ds cw_sh kk_X5_readGate.2.2.2.2.2.1 h0 h321 := cw_Fr_tr Fh317 (cw_Fr_mono (by decide +kernel) Ch321)
      have eh321_b_9 : ri_at h321 b 9 = (l.length : Int) := (ri_frf Ch321 (k := b) (d := 4) hb4 rfl (by decide +kernel)).trans eh317_b_9
      clear eh317_b_9
      have eh321_K_14 : ri_at h321 K 14 = ri_at h0 K 14 := (ri_frf Ch321 (k := K) (d := 7) hK7 rfl (by decide +kernel)).trans eh317_K_14
      clear eh317_K_14
      have eh321_K_15 : ri_at h321 K 15 = ri_at h0 K 15 := (ri_frf Ch321 (k := K) (d := 7) hK7 rfl (by decide +kernel)).trans eh317_K_15
      clear eh317_K_15
      have eh321_K_1 : ri_at h321 K 1 = ri_at h0 K 1 := (ri_frf Ch321 (k := K) (d := 7) hK7 rfl (by decide +kernel)).trans eh317_K_1
      clear eh317_K_1
      have Oh321 := zOT_fr Ch321 (by decide +kernel) Oh317
      clear Oh317
      have n3 := zvl_n y3
      rw [hx318] at y3 n3
      rw [hx319] at y3 n3
      refine ex_cv oq_X5_readGate_84 (by decide) Th321 (k := K) (d := 7) (as := [cv_i x320]) (stk := []) hK7 rfl rfl rfl rfl rfl ⟨rfl, rfl⟩ (R := fun o => ∃ hb : cv_H, o = (none, hb) ∧ cw_T G hb ∧ cw_Fr cw_Ds cw_sh kk_X7_setHeight.2.2.2.2.2.1 h321 hb ∧ ri_at hb K 1 = x320.toInt) (ct_setHeight Th321 hK7 (by omega) (by omega) (fun hb b1 b2 b3 => ⟨hb, rfl, b1, b2, b3⟩)) (fun o ho => ?_)
      obtain ⟨h322, rfl, Th322, Ch322, ih322⟩ := ho
      show cw_X _ _ _ _ _ [] h322
      have Fh322 : cw_Fr cw_Ds cw_sh kk_X5_readGate.2.2.2.2.2.1 h0 h322 := cw_Fr_tr Fh321 (cw_Fr_mono (by decide +kernel) Ch322)
      have eh322_b_9 : ri_at h322 b 9 = (l.length : Int) := (ri_frf Ch322 (k := b) (d := 4) hb4 rfl (by decide +kernel)).trans eh321_b_9
      clear eh321_b_9
      have eh322_K_14 : ri_at h322 K 14 = ri_at h0 K 14 := (ri_frf Ch322 (k := K) (d := 7) hK7 rfl (by decide +kernel)).trans eh321_K_14
      clear eh321_K_14
      have eh322_K_15 : ri_at h322 K 15 = ri_at h0 K 15 := (ri_frf Ch322 (k := K) (d := 7) hK7 rfl (by decide +kernel)).trans eh321_K_15
      clear eh321_K_15
      have Oh322 := zOT_fr Ch322 (by decide +kernel) Oh321
      clear Oh321
      have Sh322 := zCs_fr Ch322 (by decide +kernel) Sh321
      refine ex_al oq_X5_readGate_87 gL309_2 ?_
      refine ex_al oq_X5_readGate_88 gL309_0 ?_
      refine ex_bi oq_X5_readGate_89 (m := 20) (by decide) (fun x323 hx323 => ?_)
      refine ex_si oq_X5_readGate_91 (m := 400) (by decide) (fun x324 hx324 => ?_)
      refine ex_cv oq_X5_readGate_94 (by decide) Th322 (k := 50) (d := 5) (as := [cv_i x323, cv_i x324]) (stk := [cv_r K]) rfl rfl rfl rfl rfl rfl ⟨rfl, rfl⟩ (R := fun o => ∃ (x : Int32) (hb : cv_H), o = (some (cv_i x), hb) ∧ cw_T G hb ∧ cw_Fr cw_Ds cw_sh kk_X5_readNumber_1.2.2.2.2.2.1 h322 hb ∧ zCr t n hb x (zbd (zst z3) (zn t n x323.toInt x324.toInt))) (ct_readNumber (t := t) (n := n) (fun i => by rw [ht, ← hA _ Fh322]) (fun i hi => by rw [hB _ Fh322]; exact hwd i hi) hn9 Th322 Sh322 x323 x324 (by omega) (by omega) (fun x hb b1 b2 b3 => ⟨x, hb, rfl, b1, b2, b3⟩)) (fun o ho => ?_)
      obtain ⟨x325, h326, rfl, Th326, Ch326, dx325⟩ := ho
      show cw_X _ _ _ _ _ [cv_i x325, cv_r K] h326
      obtain ⟨z4, y4, wx325, Sh326⟩ : ∃ z, zbd (zst z3) (zn t n x323.toInt x324.toInt) = z ∧ x325.toInt = zvl z ∧ zCs t n (zst z) h326 := ⟨_, rfl, zCr_i dx325⟩
      clear dx325
      have Fh326 : cw_Fr cw_Ds cw_sh kk_X5_readGate.2.2.2.2.2.1 h0 h326 := cw_Fr_tr Fh322 (cw_Fr_mono (by decide +kernel) Ch326)
      have eh326_b_9 : ri_at h326 b 9 = (l.length : Int) := (ri_frf Ch326 (k := b) (d := 4) hb4 rfl (by decide +kernel)).trans eh322_b_9
      clear eh322_b_9
      have eh326_K_14 : ri_at h326 K 14 = ri_at h0 K 14 := (ri_frf Ch326 (k := K) (d := 7) hK7 rfl (by decide +kernel)).trans eh322_K_14
      clear eh322_K_14
      have eh326_K_15 : ri_at h326 K 15 = ri_at h0 K 15 := (ri_frf Ch326 (k := K) (d := 7) hK7 rfl (by decide +kernel)).trans eh322_K_15
      clear eh322_K_15
      have eh326_K_1 : ri_at h326 K 1 = x320.toInt := (ri_frf Ch326 (k := K) (d := 7) hK7 rfl (by decide +kernel)).trans ih322
      have Oh326 := zOT_fr Ch326 (by decide +kernel) Oh322
      clear Oh322
      have n4 := zvl_n y4
      rw [hx323] at y4 n4
      rw [hx324] at y4 n4
      refine ex_pfi oq_X5_readGate_97 Th326 (k := K) (d := 7) hK7 rfl rfl (cw_i32 _).1 (cw_i32 _).2 (fun h327 Th327 wh327 => ?_)
      have Fh327 : cw_Fr cw_Ds cw_sh kk_X5_readGate.2.2.2.2.2.1 h0 h327 := cw_Fr_tr Fh326 (cw_Fr_wrf wh327 (k := K) (d := 7) hK7 rfl (by decide +kernel))
      have eh327_b_9 : ri_at h327 b 9 = (l.length : Int) := (ri_ne wh327 (.inl (cw_kne (k := b) (d := 4) (k' := K) (d' := 7) hb4 hK7 (by decide)))).trans eh326_b_9
      clear eh326_b_9
      have eh327_K_14 : ri_at h327 K 14 = ri_at h0 K 14 := (ri_ne wh327 (.inr (by decide))).trans eh326_K_14
      clear eh326_K_14
      have eh327_K_15 : ri_at h327 K 15 = ri_at h0 K 15 := (ri_ne wh327 (.inr (by decide))).trans eh326_K_15
      clear eh326_K_15
      have eh327_K_1 : ri_at h327 K 1 = x320.toInt := (ri_ne wh327 (.inr (by decide))).trans eh326_K_1
      clear eh326_K_1
      have Sh327 := zCs_wr (d := 7) (k := K) wh327 hK7 Sh326 (.inl ⟨by decide, by decide⟩)
      have Oh327 := zOT_K wh327 Oh326
      clear Oh326
      refine ex_ic oq_X5_readGate_100 (m := 0) (by decide) (fun x328 hx328 => ?_)
      refine ex_isA oq_X5_readGate_101 (fun L329 gL329_3 kL329 => ?_)
      have gL329_2 : cv_get L329 2 = some (cv_r K) := kL329 2 _ (by decide) (fun _ => rfl) gL309_2
      have gL329_1 : cv_get L329 1 = some (cv_i x301) := kL329 1 _ (by decide) (fun q => absurd q (by decide)) gL309_1
      have gL329_0 : cv_get L329 0 = some (cv_r 50) := kL329 0 _ (by decide) (fun q => absurd q (by decide)) gL309_0
      have fin : zst (zgt t n l cn p) = zst (zbd (zst z4) (zgp t n (zvl z3) cn 901 0 0)) ∧ ∀ v q, zgt t n l cn p = .inr (v, q) → v = zvl z1 := by
        unfold zgt
        rw [if_neg (by omega)]
        rw [y1]
        rcases z1 with e1 | ⟨v1, q1⟩
        · subst y2; subst y3; subst y4; exact ⟨rfl, fun v q h => by first | (cases h; done) | trivial⟩
        · rw [zb2_r rfl]
          replace y2 := zbd_s y2
          rw [y2]
          rcases z2 with e2 | ⟨v2, q2⟩
          · subst y3; subst y4; exact ⟨rfl, fun v q h => by first | (cases h; done) | trivial⟩
          · rw [zb2_r rfl]
            replace y3 := zbd_s y3
            rw [y3]
            rcases z3 with e3 | ⟨v3, q3⟩
            · subst y4; exact ⟨rfl, fun v q h => by first | (cases h; done) | trivial⟩
            · rw [zb2_r rfl]
              replace y4 := zbd_s y4
              rw [y4]
              rcases z4 with e4 | ⟨v4, q4⟩
              · exact ⟨rfl, fun v q h => by first | (cases h; done) | trivial⟩
              · rw [zb2_r rfl]
                exact ⟨zst_b, fun v q h => zv_b h⟩
      have hnm : zNm h327 (b + 7) 0 (l ++ [zvl z1]) := zNm_end wh312 (zNm_eq hl (fun i => ((ri_frr Ch311 (k := (b + 7)) (d := 34) hkb7 rfl (by decide +kernel)).trans (ri_frr Ch306 (k := (b + 7)) (d := 34) hkb7 rfl (by decide +kernel))))) (fun i => ((ri_ne wh327 (.inl (cw_kne (k := (b + 7)) (d := 34) (k' := K) (d' := 7) hkb7 hK7 (by decide)))).trans ((ri_frr Ch326 (k := (b + 7)) (d := 34) hkb7 rfl (by decide +kernel)).trans ((ri_frr Ch322 (k := (b + 7)) (d := 34) hkb7 rfl (by decide +kernel)).trans ((ri_frr Ch321 (k := (b + 7)) (d := 34) hkb7 rfl (by decide +kernel)).trans ((ri_ne wh317 (.inl (cw_kne (k := (b + 7)) (d := 34) (k' := K) (d' := 7) hkb7 hK7 (by decide)))).trans (ri_frr Ch316 (k := (b + 7)) (d := 34) hkb7 rfl (by decide +kernel)))))))) wx310
      exact gt_lp ht hwd hn9 hb hpl hK7 hcc hc6 hcl (N := x301) (l := l) (by omega) (by omega) (fun h' c1 c2 c3 c4 c5 c6 => hQ h' c1 c2 ⟨c4, fun v q e => ⟨c5, by rw [fin.2 v q e]; exact c6, by rw [← hKe]; exact c3⟩⟩) 901 0 L329 x328 (zst z4) (zvl z3) 0 0 h327 (by omega) Th327 Fh327 Sh327 fin.1.symm (fun p2 q2 => by have hr := zvl_q y3 y4 q2; exact ⟨hr, by omega, by omega, by omega, by omega, (eh327_K_15.trans ht0.2).trans hP0, by omega⟩) Oh327 hnm (by omega) gL329_0 gL329_1 gL329_2 gL329_3
    · refine ex_al oq_X5_readGate_17 gL302_0 ?_
      refine ex_ic oq_X5_readGate_18 (m := 2) (by decide) (fun x330 hx330 => ?_)
      refine ex_cv oq_X5_readGate_19 (by decide) hT (k := 50) (d := 5) (as := [cv_i x330]) (stk := []) rfl rfl rfl rfl rfl rfl ⟨rfl, rfl⟩ (R := fun o => ∃ (x : Int32) (hb : cv_H), o = (some (cv_i x), hb) ∧ cw_T G hb ∧ cw_Fr cw_Ds cw_sh kk_X5_fail.2.2.2.2.2.1 h0 hb ∧ x.toInt = 0 ∧ zCs t n (.inl (2, za t n p)) hb) (ct_failP (t := t) (n := n) (p := p) hT hS x330 hx330 (by decide) (fun x hb b1 b2 b3 b4 => ⟨x, hb, rfl, b1, b2, b3, b4⟩)) (fun o ho => ?_)
      obtain ⟨x331, h332, rfl, Th332, Ch332, zh332, Sh332⟩ := ho
      show cw_X _ _ _ _ _ [cv_i x331] h332
      have Fh332 : cw_Fr cw_Ds cw_sh kk_X5_readGate.2.2.2.2.2.1 h0 h332 := cw_Fr_tr Fh0 (cw_Fr_mono (by decide +kernel) Ch332)
      have eh332_b_9 : ri_at h332 b 9 = (l.length : Int) := (ri_frf Ch332 (k := b) (d := 4) hb4 rfl (by decide +kernel)).trans hc
      have Oh332 := zOT_fr Ch332 (by decide +kernel) hOT
      refine ex_pop oq_X5_readGate_22 rfl ?_
      have fin : zst (zgt t n l cn p) = (.inl (2, za t n p)) ∧ ∀ v q, zgt t n l cn p = .inr (v, q) → True := by
        unfold zgt
        rw [if_pos (by omega)]
        exact ⟨rfl, fun v q h => by first | (cases h; done) | (cases h; rfl) | trivial⟩
      exact ex_retv oq_X5_readGate_23 rfl (hQ h332 Th332 Fh332 ⟨by rw [fin.1]; exact Sh332, fun v q h => (zst_no fin.1 h).elim⟩)
end TZ
