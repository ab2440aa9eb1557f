section
/-! ===== a line on a law: the class ===== -/
def zlc (t : Nat → Int) (n : Nat) (lt : Int → Int) (kn : Int) (p : Nat) : (Int × Nat) ⊕ ((Int × Int) × Nat) :=
  if zk t n (zx t n p) = 1 ∧ 5 ≤ zw t n (zx t n p) ∧ zw t n (zx t n p) ≤ 8 then
    (if lt (zw t n (zx t n p) - 5) = 0 then zb2 (zfc t n 901 [] kn 1 1 (zx t n (zx t n p))) fun k q => .inr ((zw t n (zx t n p) - 5, k), q) else .inl (3, za t n (zx t n p)))
  else .inl (1, za t n (zx t n p))
/-- which laws are told -/
def zLT (b : Nat) (h : cv_H) (lt : Int → Int) : Prop := ∀ i : Nat, i < 4 → lt i = 1 ∧ ri_at h (b + 3) i < ri_at h (b + 4) i ∨ lt i = 0 ∧ ri_at h (b + 4) i ≤ ri_at h (b + 3) i
theorem zLT_eq {b : Nat} {h h' : cv_H} {lt : Int → Int} (h1 : zLT b h lt) (e3 : ∀ i, ri_at h' (b + 3) i = ri_at h (b + 3) i) (e4 : ∀ i, ri_at h' (b + 4) i = ri_at h (b + 4) i) : zLT b h' lt := fun i hi => by rw [e3, e4]; exact h1 i hi
theorem zLT_set {b j : Nat} {h h' : cv_H} {lt : Int → Int} {a : Int} (h1 : zLT b h lt) (ha : a = j) (e3 : ∀ i, i ≠ j → ri_at h' (b + 3) i = ri_at h (b + 3) i) (e4 : ∀ i, i ≠ j → ri_at h' (b + 4) i = ri_at h (b + 4) i) (hj : ri_at h' (b + 3) j < ri_at h' (b + 4) j) : zLT b h' (fun i => if i = a then 1 else lt i) := by
  intro i hi
  by_cases q : i = j
  · subst q
    refine .inl ⟨?_, hj⟩
    dsimp only
    rw [if_pos ha.symm]
  · dsimp only
    rw [if_neg (by omega), e3 i q, e4 i q]
    exact h1 i hi
section TZ
variable {G : Int} {X : cv_X} {Q : cv_O → Prop} {t : Nat → Int}
theorem oq_X4_isLaw_0 : cw_ho 52 0 (.iload_n 1) 1 0 0 0 := rfl
theorem oq_X4_isLaw_1 : cw_ho 52 1 (.ifCond .lt 27) 3 0 0 0 := rfl
theorem oq_X4_isLaw_4 : cw_ho 52 4 (.iload_n 1) 1 0 0 0 := rfl
theorem oq_X4_isLaw_5 : cw_ho 52 5 (.iconst 4) 1 0 0 0 := rfl
theorem oq_X4_isLaw_6 : cw_ho 52 6 (.if_icmp .ge 22) 3 0 0 0 := rfl
theorem oq_X4_isLaw_9 : cw_ho 52 9 (.aload_n 0) 1 0 0 0 := rfl
theorem oq_X4_isLaw_10 : cw_ho 52 10 (.getfield 21) 3 4 5 4 := rfl
theorem oq_X4_isLaw_13 : cw_ho 52 13 (.iload_n 1) 1 0 0 0 := rfl
theorem oq_X4_isLaw_14 : cw_ho 52 14 (.iaload) 1 0 0 0 := rfl
theorem oq_X4_isLaw_15 : cw_ho 52 15 (.aload_n 0) 1 0 0 0 := rfl
theorem oq_X4_isLaw_16 : cw_ho 52 16 (.getfield 18) 3 4 4 4 := rfl
theorem oq_X4_isLaw_19 : cw_ho 52 19 (.iload_n 1) 1 0 0 0 := rfl
theorem oq_X4_isLaw_20 : cw_ho 52 20 (.iaload) 1 0 0 0 := rfl
theorem oq_X4_isLaw_21 : cw_ho 52 21 (.if_icmp .le 7) 3 0 0 0 := rfl
theorem oq_X4_isLaw_24 : cw_ho 52 24 (.iconst 1) 1 0 0 0 := rfl
theorem oq_X4_isLaw_25 : cw_ho 52 25 (.goto 4) 3 0 0 0 := rfl
theorem oq_X4_isLaw_28 : cw_ho 52 28 (.iconst 0) 1 0 0 0 := rfl
theorem oq_X4_isLaw_29 : cw_ho 52 29 (.ireturn) 1 0 0 0 := rfl
theorem ct_isLaw {h : cv_H} {b j : Nat} (hb : b = 2 ∨ b = 26) (hpl : zPL b h) (hT : cw_T G h) {a : Int32} (ha : a.toInt = j) (hj : j < 4) (hQ : ∀ x : Int32, (x.toInt = 1 ∧ ri_at h (b + 3) j < ri_at h (b + 4) j ∨ x.toInt = 0 ∧ ri_at h (b + 4) j ≤ ri_at h (b + 3) j) → Q (some (cv_i x), h)) : cw_X X 52 Q 0 (cv_ent 0 [cv_r b, cv_i a]) [] h := by
  have Fh : cw_Fr cw_Ds cw_sh 0 h h := cw_Fr_refl
  have hPL : ∀ h', cw_Fr cw_Ds cw_sh 0 h h' → zPL b h' := fun h' F => zPL_fr hb F (by decide +kernel) hpl
  have hb4 : cw_sh[b]? = some 4 := by rcases hb with rfl | rfl <;> rfl
  have hkb3 : cw_sh[b + 3]? = some 30 := by rcases hb with rfl | rfl <;> rfl
  have hkb4 : cw_sh[b + 4]? = some 31 := by rcases hb with rfl | rfl <;> rfl
  refine ex_il oq_X4_isLaw_0 rfl ?_
  refine ex_if0 oq_X4_isLaw_1 (t := 28) rfl rfl (fun (c11 : a.toInt < 0) => ?_) (fun (c11 : ¬ (a.toInt < 0)) => ?_)
  · exfalso; omega
  · refine ex_il oq_X4_isLaw_4 rfl ?_
    refine ex_ic oq_X4_isLaw_5 (m := 4) (by decide) (fun x12 hx12 => ?_)
    refine ex_if oq_X4_isLaw_6 (t := 28) rfl rfl (fun (c13 : x12.toInt ≤ a.toInt) => ?_) (fun (c13 : ¬ (x12.toInt ≤ a.toInt)) => ?_)
    · exfalso; omega
    · refine ex_al oq_X4_isLaw_9 rfl ?_
      refine ex_gf oq_X4_isLaw_10 hT (k := b) (d := 4) hb4 rfl ((show cw_at h b 5 = some (cv_r (b + 4)) from (hPL _ Fh).2.1 5 (by decide))) ?_
      refine ex_il oq_X4_isLaw_13 rfl ?_
      refine ex_ia1 oq_X4_isLaw_14 hT (k := (b + 4)) (d := 31) (j := j) hkb4 rfl (by omega) (by omega) (fun x14 hx14 lx14 ux14 => ?_)
      refine ex_al oq_X4_isLaw_15 rfl ?_
      refine ex_gf oq_X4_isLaw_16 hT (k := b) (d := 4) hb4 rfl ((show cw_at h b 4 = some (cv_r (b + 3)) from (hPL _ Fh).2.1 4 (by decide))) ?_
      refine ex_il oq_X4_isLaw_19 rfl ?_
      refine ex_ia1 oq_X4_isLaw_20 hT (k := (b + 3)) (d := 30) (j := j) hkb3 rfl (by omega) (by omega) (fun x15 hx15 lx15 ux15 => ?_)
      refine ex_if oq_X4_isLaw_21 (t := 28) rfl rfl (fun (c16 : x14.toInt ≤ x15.toInt) => ?_) (fun (c16 : ¬ (x14.toInt ≤ x15.toInt)) => ?_)
      · refine ex_ic oq_X4_isLaw_28 (m := 0) (by decide) (fun x17 hx17 => ?_)
        exact ex_retb oq_X4_isLaw_29 rfl (by omega) (by omega) (hQ x17 (by omega))
      · refine ex_ic oq_X4_isLaw_24 (m := 1) (by decide) (fun x18 hx18 => ?_)
        refine ex_go oq_X4_isLaw_25 (t := 29) rfl rfl ?_
        exact ex_retb oq_X4_isLaw_29 rfl (by omega) (by omega) (hQ x18 (by omega))
theorem oq_X5_readLaw_0 : cw_ho 66 0 (.aload_n 0) 1 0 0 0 := rfl
theorem oq_X5_readLaw_1 : cw_ho 66 1 (.getfield 20) 3 5 0 4 := rfl
theorem oq_X5_readLaw_4 : cw_ho 66 4 (.invokevirtual 82) 3 78 0 6 := rfl
theorem oq_X5_readLaw_7 : cw_ho 66 7 (.aload_n 0) 1 0 0 0 := rfl
theorem oq_X5_readLaw_8 : cw_ho 66 8 (.getfield 20) 3 5 0 4 := rfl
theorem oq_X5_readLaw_11 : cw_ho 66 11 (.iconst 5) 1 0 0 0 := rfl
theorem oq_X5_readLaw_12 : cw_ho 66 12 (.bipush 8) 2 0 0 0 := rfl
theorem oq_X5_readLaw_14 : cw_ho 66 14 (.invokevirtual 97) 3 84 2 6 := rfl
theorem oq_X5_readLaw_17 : cw_ho 66 17 (.ifCond .ne 10) 3 0 0 0 := rfl
theorem oq_X5_readLaw_20 : cw_ho 66 20 (.aload_n 0) 1 0 0 0 := rfl
theorem oq_X5_readLaw_21 : cw_ho 66 21 (.iconst 1) 1 0 0 0 := rfl
theorem oq_X5_readLaw_22 : cw_ho 66 22 (.invokevirtual 74) 3 61 1 5 := rfl
theorem oq_X5_readLaw_25 : cw_ho 66 25 (.pop) 1 0 0 0 := rfl
theorem oq_X5_readLaw_26 : cw_ho 66 26 (.return_) 1 0 0 0 := rfl
theorem oq_X5_readLaw_27 : cw_ho 66 27 (.aload_n 0) 1 0 0 0 := rfl
theorem oq_X5_readLaw_28 : cw_ho 66 28 (.getfield 20) 3 5 0 4 := rfl
theorem oq_X5_readLaw_31 : cw_ho 66 31 (.getfield 56) 3 6 6 0 := rfl
theorem oq_X5_readLaw_34 : cw_ho 66 34 (.iconst 5) 1 0 0 0 := rfl
theorem oq_X5_readLaw_35 : cw_ho 66 35 (.isub) 1 0 0 0 := rfl
theorem oq_X5_readLaw_36 : cw_ho 66 36 (.istore_n 1) 1 0 0 0 := rfl
theorem oq_X5_readLaw_37 : cw_ho 66 37 (.iload_n 1) 1 0 0 0 := rfl
theorem oq_X5_readLaw_38 : cw_ho 66 38 (.ifCond .lt 19) 3 0 0 0 := rfl
theorem oq_X5_readLaw_41 : cw_ho 66 41 (.iload_n 1) 1 0 0 0 := rfl
theorem oq_X5_readLaw_42 : cw_ho 66 42 (.iconst 4) 1 0 0 0 := rfl
theorem oq_X5_readLaw_43 : cw_ho 66 43 (.if_icmp .ge 14) 3 0 0 0 := rfl
theorem oq_X5_readLaw_46 : cw_ho 66 46 (.aload_n 0) 1 0 0 0 := rfl
theorem oq_X5_readLaw_47 : cw_ho 66 47 (.getfield 33) 3 5 2 4 := rfl
theorem oq_X5_readLaw_50 : cw_ho 66 50 (.iload_n 1) 1 0 0 0 := rfl
theorem oq_X5_readLaw_51 : cw_ho 66 51 (.invokevirtual 101) 3 52 1 4 := rfl
theorem oq_X5_readLaw_54 : cw_ho 66 54 (.ifCond .eq 10) 3 0 0 0 := rfl
theorem oq_X5_readLaw_57 : cw_ho 66 57 (.aload_n 0) 1 0 0 0 := rfl
theorem oq_X5_readLaw_58 : cw_ho 66 58 (.iconst 3) 1 0 0 0 := rfl
theorem oq_X5_readLaw_59 : cw_ho 66 59 (.invokevirtual 74) 3 61 1 5 := rfl
theorem oq_X5_readLaw_62 : cw_ho 66 62 (.pop) 1 0 0 0 := rfl
theorem oq_X5_readLaw_63 : cw_ho 66 63 (.return_) 1 0 0 0 := rfl
theorem oq_X5_readLaw_64 : cw_ho 66 64 (.aload_n 0) 1 0 0 0 := rfl
theorem oq_X5_readLaw_65 : cw_ho 66 65 (.getfield 20) 3 5 0 4 := rfl
theorem oq_X5_readLaw_68 : cw_ho 66 68 (.invokevirtual 82) 3 78 0 6 := rfl
theorem oq_X5_readLaw_71 : cw_ho 66 71 (.aload_n 0) 1 0 0 0 := rfl
theorem oq_X5_readLaw_72 : cw_ho 66 72 (.getfield 33) 3 5 2 4 := rfl
theorem oq_X5_readLaw_75 : cw_ho 66 75 (.getfield 105) 3 4 2 0 := rfl
theorem oq_X5_readLaw_78 : cw_ho 66 78 (.istore_n 2) 1 0 0 0 := rfl
theorem oq_X5_readLaw_79 : cw_ho 66 79 (.aload_n 0) 1 0 0 0 := rfl
theorem oq_X5_readLaw_80 : cw_ho 66 80 (.getfield 29) 3 5 1 4 := rfl
theorem oq_X5_readLaw_83 : cw_ho 66 83 (.aload_n 0) 1 0 0 0 := rfl
theorem oq_X5_readLaw_84 : cw_ho 66 84 (.getfield 33) 3 5 2 4 := rfl
theorem oq_X5_readLaw_87 : cw_ho 66 87 (.invokevirtual 108) 3 1 1 0 := rfl
theorem oq_X5_readLaw_90 : cw_ho 66 90 (.istore_n 3) 1 0 0 0 := rfl
theorem oq_X5_readLaw_91 : cw_ho 66 91 (.iload_n 3) 1 0 0 0 := rfl
theorem oq_X5_readLaw_92 : cw_ho 66 92 (.ifCond .eq 9) 3 0 0 0 := rfl
theorem oq_X5_readLaw_95 : cw_ho 66 95 (.aload_n 0) 1 0 0 0 := rfl
theorem oq_X5_readLaw_96 : cw_ho 66 96 (.iload_n 3) 1 0 0 0 := rfl
theorem oq_X5_readLaw_97 : cw_ho 66 97 (.invokevirtual 74) 3 61 1 5 := rfl
theorem oq_X5_readLaw_100 : cw_ho 66 100 (.pop) 1 0 0 0 := rfl
theorem oq_X5_readLaw_101 : cw_ho 66 101 (.aload_n 0) 1 0 0 0 := rfl
theorem oq_X5_readLaw_102 : cw_ho 66 102 (.getfield 33) 3 5 2 4 := rfl
theorem oq_X5_readLaw_105 : cw_ho 66 105 (.getfield 112) 3 4 4 4 := rfl
theorem oq_X5_readLaw_108 : cw_ho 66 108 (.iload_n 1) 1 0 0 0 := rfl
theorem oq_X5_readLaw_109 : cw_ho 66 109 (.iload_n 2) 1 0 0 0 := rfl
theorem oq_X5_readLaw_110 : cw_ho 66 110 (.iastore) 1 0 0 0 := rfl
theorem oq_X5_readLaw_111 : cw_ho 66 111 (.aload_n 0) 1 0 0 0 := rfl
theorem oq_X5_readLaw_112 : cw_ho 66 112 (.getfield 33) 3 5 2 4 := rfl
theorem oq_X5_readLaw_115 : cw_ho 66 115 (.getfield 115) 3 4 5 4 := rfl
theorem oq_X5_readLaw_118 : cw_ho 66 118 (.iload_n 1) 1 0 0 0 := rfl
theorem oq_X5_readLaw_119 : cw_ho 66 119 (.aload_n 0) 1 0 0 0 := rfl
theorem oq_X5_readLaw_120 : cw_ho 66 120 (.getfield 33) 3 5 2 4 := rfl
theorem oq_X5_readLaw_123 : cw_ho 66 123 (.getfield 105) 3 4 2 0 := rfl
theorem oq_X5_readLaw_126 : cw_ho 66 126 (.iastore) 1 0 0 0 := rfl
theorem oq_X5_readLaw_127 : cw_ho 66 127 (.aload_n 0) 1 0 0 0 := rfl
theorem oq_X5_readLaw_128 : cw_ho 66 128 (.getfield 33) 3 5 2 4 := rfl
theorem oq_X5_readLaw_131 : cw_ho 66 131 (.getfield 118) 3 4 6 4 := rfl
theorem oq_X5_readLaw_134 : cw_ho 66 134 (.iload_n 1) 1 0 0 0 := rfl
theorem oq_X5_readLaw_135 : cw_ho 66 135 (.aload_n 0) 1 0 0 0 := rfl
theorem oq_X5_readLaw_136 : cw_ho 66 136 (.getfield 29) 3 5 1 4 := rfl
theorem oq_X5_readLaw_139 : cw_ho 66 139 (.getfield 121) 3 0 4 0 := rfl
theorem oq_X5_readLaw_142 : cw_ho 66 142 (.iastore) 1 0 0 0 := rfl
theorem oq_X5_readLaw_143 : cw_ho 66 143 (.return_) 1 0 0 0 := rfl
set_option maxHeartbeats 8000000 in
theorem ct_readLaw {h0 : cv_H} {n p : Nat} (ht : ∀ i, t i = ri_at h0 1 i % 256) (hwd : ∀ i, i < 34 → ri_at h0 52 i = tz_wc.getD i 0) (hn9 : n ≤ 900) (hT : cw_T G h0) {b : Nat} (hb : b = 2 ∨ b = 26) (hpl : zPL b h0) (hS : zCs t n (.inr p) h0) {lt : Int → Int} {kn : Int} (hlt : zLT b h0 lt) (hco : ri_at h0 b 2 = kn) (hkn : ri_at h0 b 3 = kn) (hk0 : 0 ≤ kn) (hk64 : kn ≤ 64) (hQ : ∀ h', cw_T G h' → cw_Fr cw_Ds cw_sh kk_X5_readLaw.2.2.2.2.2.1 h0 h' → zCs t n (zst (zlc t n lt kn p)) h' ∧ (∀ v q, zlc t n lt kn p = .inr (v, q) → zLT b h' (fun i => if i = v.1 then 1 else lt i) ∧ ri_at h' b 2 = v.2 ∧ ri_at h' b 3 = v.2 ∧ 0 ≤ v.2 ∧ v.2 ≤ 64) → Q (none, h')) : cw_X X 66 Q 0 (cv_ent 0 [cv_r 50]) [] h0 := by
  have Fh0 : cw_Fr cw_Ds cw_sh kk_X5_readLaw.2.2.2.2.2.1 h0 h0 := cw_Fr_refl
  have hA : ∀ h, cw_Fr cw_Ds cw_sh kk_X5_readLaw.2.2.2.2.2.1 h0 h → ∀ i, ri_at h 1 i = ri_at h0 1 i := fun h F i => ri_frr F (k := 1) (d := 13) rfl rfl (by decide +kernel)
  have hB : ∀ h, cw_Fr cw_Ds cw_sh kk_X5_readLaw.2.2.2.2.2.1 h0 h → ∀ i, ri_at h 52 i = ri_at h0 52 i := fun h F i => ri_frr F (k := 52) (d := 43) rfl rfl (by decide +kernel)
  have hPL : ∀ h, cw_Fr cw_Ds cw_sh kk_X5_readLaw.2.2.2.2.2.1 h0 h → zPL b h := fun h F => zPL_fr hb F (by decide +kernel) hpl
  have hb4 : cw_sh[b]? = some 4 := by rcases hb with rfl | rfl <;> rfl
  have hkb1 : cw_sh[b + 1]? = some 28 := by rcases hb with rfl | rfl <;> rfl
  have hkb2 : cw_sh[b + 2]? = some 29 := by rcases hb with rfl | rfl <;> rfl
  have hkb3 : cw_sh[b + 3]? = some 30 := by rcases hb with rfl | rfl <;> rfl
  have hkb4 : cw_sh[b + 4]? = some 31 := by rcases hb with rfl | rfl <;> rfl
  have hkb5 : cw_sh[b + 5]? = some 32 := by rcases hb with rfl | rfl <;> rfl
  have hkb6 : cw_sh[b + 6]? = some 33 := by rcases hb with rfl | rfl <;> rfl
  have hkb7 : cw_sh[b + 7]? = some 34 := by rcases hb with rfl | rfl <;> rfl
  have hkb8 : cw_sh[b + 8]? = some 35 := by rcases hb with rfl | rfl <;> rfl
  have hkb9 : cw_sh[b + 9]? = some 36 := by rcases hb with rfl | rfl <;> rfl
  have hkb10 : cw_sh[b + 10]? = some 37 := by rcases hb with rfl | rfl <;> rfl
  have hkb11 : cw_sh[b + 11]? = some 38 := by rcases hb with rfl | rfl <;> rfl
  have hkb12 : cw_sh[b + 12]? = some 39 := by rcases hb with rfl | rfl <;> rfl
  have hkb13 : cw_sh[b + 13]? = some 40 := by rcases hb with rfl | rfl <;> rfl
  have hkb14 : cw_sh[b + 14]? = some 41 := by rcases hb with rfl | rfl <;> rfl
  have hkb15 : cw_sh[b + 15]? = some 42 := by rcases hb with rfl | rfl <;> rfl
  refine ex_al oq_X5_readLaw_0 rfl ?_
  refine ex_gf oq_X5_readLaw_1 hT (k := 50) (d := 5) rfl rfl (ri_ref (k := 50) (k' := 51) (d := 5) (f := 0) hT rfl rfl rfl (by decide) (ri_uniq (by decide +kernel))) ?_
  refine ex_cv oq_X5_readLaw_4 (by decide) hT (k := 51) (d := 6) (as := []) (stk := []) rfl rfl rfl rfl rfl rfl ⟨rfl, rfl⟩ (R := fun o => ∃ hb : cv_H, o = (none, hb) ∧ cw_T G hb ∧ cw_Fr cw_Ds cw_sh kk_X6_step.2.2.2.2.2.1 h0 hb ∧ zCs t n (.inr (zx t n p)) hb) (ct_stepC (t := t) (n := n) (p := p) (fun i => by rw [ht, ← hA _ Fh0]) (fun i hi => by rw [hB _ Fh0]; exact hwd i hi) hn9 hT hS (fun hb b1 b2 b3 => ⟨hb, rfl, b1, b2, b3⟩)) (fun o ho => ?_)
  obtain ⟨h101, rfl, Th101, Ch101, Sh101⟩ := ho
  show cw_X _ _ _ _ _ [] h101
  have Fh101 : cw_Fr cw_Ds cw_sh kk_X5_readLaw.2.2.2.2.2.1 h0 h101 := cw_Fr_tr Fh0 (cw_Fr_mono (by decide +kernel) Ch101)
  have eh101_b_2 : ri_at h101 b 2 = kn := (ri_frf Ch101 (k := b) (d := 4) hb4 rfl (by decide +kernel)).trans hco
  have eh101_b_3 : ri_at h101 b 3 = kn := (ri_frf Ch101 (k := b) (d := 4) hb4 rfl (by decide +kernel)).trans hkn
  obtain ⟨pnh101, yah101, ybh101, ych101, ydh101, yfh101⟩ := zCs_at Sh101
  obtain ⟨kch101, ykh101⟩ : ∃ k, ri_at h101 51 4 = k := ⟨_, rfl⟩
  obtain ⟨vch101, yvh101⟩ : ∃ k, ri_at h101 51 6 = k := ⟨_, rfl⟩
  rw [ykh101, yvh101] at ydh101
  replace ydh101 := zhd_i ydh101
  have zlh101 := zx_le (t := t) (n := n) (p := (zx t n p)) (by omega)
  refine ex_al oq_X5_readLaw_7 rfl ?_
  refine ex_gf oq_X5_readLaw_8 Th101 (k := 50) (d := 5) rfl rfl (ri_ref (k := 50) (k' := 51) (d := 5) (f := 0) Th101 rfl rfl rfl (by decide) (ri_uniq (by decide +kernel))) ?_
  refine ex_ic oq_X5_readLaw_11 (m := 5) (by decide) (fun x102 hx102 => ?_)
  refine ex_bi oq_X5_readLaw_12 (m := 8) (by decide) (fun x103 hx103 => ?_)
  refine ex_cv oq_X5_readLaw_14 (by decide) Th101 (k := 51) (d := 6) (as := [cv_i x102, cv_i x103]) (stk := []) rfl rfl rfl rfl rfl rfl ⟨rfl, rfl⟩ (R := fun o => ∃ x : Int32, o = (some (cv_i x), h101) ∧ (x.toInt = 1 ∧ (kch101 = 2 ∧ x102.toInt ≤ vch101 ∧ vch101 ≤ x103.toInt) ∨ x.toInt = 0 ∧ ¬ (kch101 = 2 ∧ x102.toInt ≤ vch101 ∧ vch101 ≤ x103.toInt))) (ct_isWordFrom Th101 x102 x103 ykh101 yvh101 (fun x q => ⟨x, rfl, q⟩)) (fun o ho => ?_)
  obtain ⟨x104, rfl, dx104⟩ := ho
  show cw_X _ _ _ _ _ [cv_i x104] h101
  rw [hx102] at dx104
  rw [hx103] at dx104
  refine ex_if0 oq_X5_readLaw_17 (t := 27) rfl rfl (fun (c105 : ¬ x104.toInt = 0) => ?_) (fun (c105 : ¬ (¬ x104.toInt = 0)) => ?_)
  · replace dx104 := bit_y dx104 c105
    have rl106 := rl_pw (show tz_rel _ _ _ _ from ydh101)
    refine ex_al oq_X5_readLaw_27 rfl ?_
    refine ex_gf oq_X5_readLaw_28 Th101 (k := 50) (d := 5) rfl rfl (ri_ref (k := 50) (k' := 51) (d := 5) (f := 0) Th101 rfl rfl rfl (by decide) (ri_uniq (by decide +kernel))) ?_
    obtain ⟨x107, ax107, rx107, lx107, ux107⟩ := ri_fld (k := 51) (d := 6) (f := 6) Th101 rfl rfl rfl
    try dsimp only at lx107 ux107
    refine ex_gf oq_X5_readLaw_31 Th101 (k := 51) (d := 6) rfl rfl ax107 ?_
    clear lx107 ux107
    have rx107 := (rx107.symm.trans yvh101 : x107.toInt = vch101)
    refine ex_ic oq_X5_readLaw_34 (m := 5) (by decide) (fun x108 hx108 => ?_)
    refine ex_sub oq_X5_readLaw_35 (by omega) (fun x109 hx109 => ?_)
    refine ex_isA oq_X5_readLaw_36 (fun L110 gL110_1 kL110 => ?_)
    have gL110_0 : cv_get L110 0 = some (cv_r 50) := kL110 0 _ (by decide) (fun _ => rfl) rfl
    refine ex_il oq_X5_readLaw_37 gL110_1 ?_
    refine ex_if0 oq_X5_readLaw_38 (t := 57) rfl rfl (fun (c111 : x109.toInt < 0) => ?_) (fun (c111 : ¬ (x109.toInt < 0)) => ?_)
    · exfalso; omega
    · refine ex_il oq_X5_readLaw_41 gL110_1 ?_
      refine ex_ic oq_X5_readLaw_42 (m := 4) (by decide) (fun x112 hx112 => ?_)
      refine ex_if oq_X5_readLaw_43 (t := 57) rfl rfl (fun (c113 : x112.toInt ≤ x109.toInt) => ?_) (fun (c113 : ¬ (x112.toInt ≤ x109.toInt)) => ?_)
      · exfalso; omega
      · refine ex_al oq_X5_readLaw_46 gL110_0 ?_
        refine ex_gf oq_X5_readLaw_47 Th101 (k := 50) (d := 5) rfl rfl ((hPL _ Fh101).1) ?_
        refine ex_il oq_X5_readLaw_50 gL110_1 ?_
        refine ex_cv oq_X5_readLaw_51 (by decide) Th101 (k := b) (d := 4) (as := [cv_i x109]) (stk := []) hb4 rfl rfl rfl rfl rfl ⟨rfl, rfl⟩ (R := fun o => ∃ x : Int32, o = (some (cv_i x), h101) ∧ (x.toInt = 1 ∧ ri_at h101 (b + 3) (zw t n (zx t n p) - 5).toNat < ri_at h101 (b + 4) (zw t n (zx t n p) - 5).toNat ∨ x.toInt = 0 ∧ ri_at h101 (b + 4) (zw t n (zx t n p) - 5).toNat ≤ ri_at h101 (b + 3) (zw t n (zx t n p) - 5).toNat)) (ct_isLaw hb (hPL _ Fh101) Th101 (a := x109) (j := (zw t n (zx t n p) - 5).toNat) (by omega) (by omega) (fun x q => ⟨x, rfl, q⟩)) (fun o ho => ?_)
        obtain ⟨x114, rfl, dx114⟩ := ho
        show cw_X _ _ _ _ _ [cv_i x114] h101
        have hlw : x114.toInt = lt (zw t n (zx t n p) - 5) := by
          have e3 : ∀ i, ri_at h101 (b + 3) i = ri_at h0 (b + 3) i := fun i => (ri_frr Ch101 (k := (b + 3)) (d := 30) hkb3 rfl (by decide +kernel))
          have e4 : ∀ i, ri_at h101 (b + 4) i = ri_at h0 (b + 4) i := fun i => (ri_frr Ch101 (k := (b + 4)) (d := 31) hkb4 rfl (by decide +kernel))
          have := hlt (zw t n (zx t n p) - 5).toNat (by omega)
          rw [e3, e4] at dx114
          rw [show ((((zw t n (zx t n p) - 5).toNat : Nat)) : Int) = zw t n (zx t n p) - 5 from by omega] at this
          omega
        clear dx114
        have hlx : lt (zw t n (zx t n p) - 5) = 0 ∨ lt (zw t n (zx t n p) - 5) = 1 := by
          have := hlt (zw t n (zx t n p) - 5).toNat (by omega)
          rw [show ((((zw t n (zx t n p) - 5).toNat : Nat)) : Int) = zw t n (zx t n p) - 5 from by omega] at this
          omega
        refine ex_if0 oq_X5_readLaw_54 (t := 64) rfl rfl (fun (c115 : x114.toInt = 0) => ?_) (fun (c115 : ¬ (x114.toInt = 0)) => ?_)
        · refine ex_al oq_X5_readLaw_64 gL110_0 ?_
          refine ex_gf oq_X5_readLaw_65 Th101 (k := 50) (d := 5) rfl rfl (ri_ref (k := 50) (k' := 51) (d := 5) (f := 0) Th101 rfl rfl rfl (by decide) (ri_uniq (by decide +kernel))) ?_
          refine ex_cv oq_X5_readLaw_68 (by decide) Th101 (k := 51) (d := 6) (as := []) (stk := []) rfl rfl rfl rfl rfl rfl ⟨rfl, rfl⟩ (R := fun o => ∃ hb : cv_H, o = (none, hb) ∧ cw_T G hb ∧ cw_Fr cw_Ds cw_sh kk_X6_step.2.2.2.2.2.1 h101 hb ∧ zCs t n (.inr (zx t n (zx t n p))) hb) (ct_stepC (t := t) (n := n) (p := (zx t n p)) (fun i => by rw [ht, ← hA _ Fh101]) (fun i hi => by rw [hB _ Fh101]; exact hwd i hi) hn9 Th101 Sh101 (fun hb b1 b2 b3 => ⟨hb, rfl, b1, b2, b3⟩)) (fun o ho => ?_)
          obtain ⟨h116, rfl, Th116, Ch116, Sh116⟩ := ho
          show cw_X _ _ _ _ _ [] h116
          have Fh116 : cw_Fr cw_Ds cw_sh kk_X5_readLaw.2.2.2.2.2.1 h0 h116 := cw_Fr_tr Fh101 (cw_Fr_mono (by decide +kernel) Ch116)
          have eh116_b_2 : ri_at h116 b 2 = kn := (ri_frf Ch116 (k := b) (d := 4) hb4 rfl (by decide +kernel)).trans eh101_b_2
          clear eh101_b_2
          have eh116_b_3 : ri_at h116 b 3 = kn := (ri_frf Ch116 (k := b) (d := 4) hb4 rfl (by decide +kernel)).trans eh101_b_3
          clear eh101_b_3
          clear yah101 ybh101 ych101 ykh101 yvh101 yfh101
          obtain ⟨pnh116, yah116, ybh116, ych116, ydh116, yfh116⟩ := zCs_at Sh116
          obtain ⟨kch116, ykh116⟩ : ∃ k, ri_at h116 51 4 = k := ⟨_, rfl⟩
          obtain ⟨vch116, yvh116⟩ : ∃ k, ri_at h116 51 6 = k := ⟨_, rfl⟩
          rw [ykh116, yvh116] at ydh116
          replace ydh116 := zhd_i ydh116
          have zlh116 := zx_le (t := t) (n := n) (p := (zx t n (zx t n p))) (by omega)
          refine ex_al oq_X5_readLaw_71 gL110_0 ?_
          refine ex_gf oq_X5_readLaw_72 Th116 (k := 50) (d := 5) rfl rfl ((hPL _ Fh116).1) ?_
          obtain ⟨x117, ax117, rx117, lx117, ux117⟩ := ri_fld (k := b) (d := 4) (f := 2) Th116 hb4 rfl rfl
          try dsimp only at lx117 ux117
          refine ex_gf oq_X5_readLaw_75 Th116 (k := b) (d := 4) hb4 rfl ax117 ?_
          clear lx117 ux117
          have rx117 := (rx117.symm.trans eh116_b_2 : x117.toInt = kn)
          refine ex_isA oq_X5_readLaw_78 (fun L118 gL118_2 kL118 => ?_)
          have gL118_1 : cv_get L118 1 = some (cv_i x109) := kL118 1 _ (by decide) (fun _ => rfl) gL110_1
          have gL118_0 : cv_get L118 0 = some (cv_r 50) := kL118 0 _ (by decide) (fun q => absurd q (by decide)) gL110_0
          refine ex_al oq_X5_readLaw_79 gL118_0 ?_
          refine ex_gf oq_X5_readLaw_80 Th116 (k := 50) (d := 5) rfl rfl (ri_ref (k := 50) (k' := 53) (d := 5) (f := 1) Th116 rfl rfl rfl (by decide) (ri_uniq (by decide +kernel))) ?_
          refine ex_al oq_X5_readLaw_83 gL118_0 ?_
          refine ex_gf oq_X5_readLaw_84 Th116 (k := 50) (d := 5) rfl rfl ((hPL _ Fh116).1) ?_
          refine ex_cv oq_X5_readLaw_87 (by decide) Th116 (k := 53) (d := 0) (as := [cv_r b]) (stk := []) rfl rfl rfl rfl rfl rfl ⟨rfl, rfl⟩ (R := fun o => ∃ (x : Int32) (hb : cv_H), o = (some (cv_i x), hb) ∧ cw_T G hb ∧ cw_Fr cw_Ds cw_sh kk_X0_readInto.2.2.2.2.2.1 h116 hb ∧ zFx t n b (zfc t n 901 [] kn 1 1 (zx t n (zx t n p))) x.toInt hb) (ct_readInto (t := t) (n := n) (fun i => by rw [ht, ← hA _ Fh116]) (fun i hi => by rw [hB _ Fh116]; exact hwd i hi) hn9 Th116 hb4 Sh116 eh116_b_2 eh116_b_3 hk0 hk64 (fun x hb b1 b2 b3 => ⟨x, hb, rfl, b1, b2, b3⟩)) (fun o ho => ?_)
          obtain ⟨x119, h120, rfl, Th120, Ch120, dx119⟩ := ho
          show cw_X _ _ _ _ _ [cv_i x119] h120
          have Fh120 : cw_Fr cw_Ds cw_sh kk_X5_readLaw.2.2.2.2.2.1 h0 h120 := cw_Fr_tr Fh116 (cw_Fr_mono (by decide +kernel) Ch120)
          refine ex_isA oq_X5_readLaw_90 (fun L121 gL121_3 kL121 => ?_)
          have gL121_2 : cv_get L121 2 = some (cv_i x117) := kL121 2 _ (by decide) (fun _ => rfl) gL118_2
          have gL121_1 : cv_get L121 1 = some (cv_i x109) := kL121 1 _ (by decide) (fun q => absurd q (by decide)) gL118_1
          have gL121_0 : cv_get L121 0 = some (cv_r 50) := kL121 0 _ (by decide) (fun q => absurd q (by decide)) gL118_0
          refine ex_il oq_X5_readLaw_91 gL121_3 ?_
          refine ex_if0 oq_X5_readLaw_92 (t := 101) rfl rfl (fun (c122 : x119.toInt = 0) => ?_) (fun (c122 : ¬ (x119.toInt = 0)) => ?_)
          · obtain ⟨kF, qF, eF, xF, SF, cF, dF, lF⟩ : ∃ k q, zfc t n 901 [] kn 1 1 (zx t n (zx t n p)) = .inr (k, q) ∧ x119.toInt = 0 ∧ zCs t n (.inr q) h120 ∧ ri_at h120 b 2 = k ∧ ri_at h120 b 3 = k ∧ k ≤ 64 := by
              rcases dx119 with e | ⟨c, q, e1, e2, e3, e4⟩
              · exact e
              · exfalso; omega
            refine ex_al oq_X5_readLaw_101 gL121_0 ?_
            refine ex_gf oq_X5_readLaw_102 Th120 (k := 50) (d := 5) rfl rfl ((hPL _ Fh120).1) ?_
            refine ex_gf oq_X5_readLaw_105 Th120 (k := b) (d := 4) hb4 rfl ((show cw_at h120 b 4 = some (cv_r (b + 3)) from (hPL _ Fh120).2.1 4 (by decide))) ?_
            refine ex_il oq_X5_readLaw_108 gL121_1 ?_
            refine ex_il oq_X5_readLaw_109 gL121_2 ?_
            refine ex_iw1 oq_X5_readLaw_110 Th120 (k := (b + 3)) (d := 30) (j := (zw t n (zx t n p) - 5).toNat) hkb3 rfl (by omega) (by omega) ⟨(cw_i32 _).1, (cw_i32 _).2⟩ (fun h123 Th123 wh123 => ?_)
            have Fh123 : cw_Fr cw_Ds cw_sh kk_X5_readLaw.2.2.2.2.2.1 h0 h123 := cw_Fr_tr Fh120 (cw_Fr_wrr wh123 (k := (b + 3)) (d := 30) hkb3 rfl (by decide +kernel))
            have eh123_b_2 : ri_at h123 b 2 = kF := (ri_ne wh123 (.inl (cw_kne (k := b) (d := 4) (k' := (b + 3)) (d' := 30) hb4 hkb3 (by decide)))).trans cF
            have eh123_b_3 : ri_at h123 b 3 = kF := (ri_ne wh123 (.inl (cw_kne (k := b) (d := 4) (k' := (b + 3)) (d' := 30) hb4 hkb3 (by decide)))).trans dF
            have Sh123 := zCs_wr (d := 30) (k := (b + 3)) wh123 hkb3 SF (.inl ⟨by decide, by decide⟩)
            refine ex_al oq_X5_readLaw_111 gL121_0 ?_
            refine ex_gf oq_X5_readLaw_112 Th123 (k := 50) (d := 5) rfl rfl ((hPL _ Fh123).1) ?_
            refine ex_gf oq_X5_readLaw_115 Th123 (k := b) (d := 4) hb4 rfl ((show cw_at h123 b 5 = some (cv_r (b + 4)) from (hPL _ Fh123).2.1 5 (by decide))) ?_
            refine ex_il oq_X5_readLaw_118 gL121_1 ?_
            refine ex_al oq_X5_readLaw_119 gL121_0 ?_
            refine ex_gf oq_X5_readLaw_120 Th123 (k := 50) (d := 5) rfl rfl ((hPL _ Fh123).1) ?_
            obtain ⟨x124, ax124, rx124, lx124, ux124⟩ := ri_fld (k := b) (d := 4) (f := 2) Th123 hb4 rfl rfl
            try dsimp only at lx124 ux124
            refine ex_gf oq_X5_readLaw_123 Th123 (k := b) (d := 4) hb4 rfl ax124 ?_
            clear lx124 ux124
            have rx124 := (rx124.symm.trans eh123_b_2 : x124.toInt = kF)
            refine ex_iw1 oq_X5_readLaw_126 Th123 (k := (b + 4)) (d := 31) (j := (zw t n (zx t n p) - 5).toNat) hkb4 rfl (by omega) (by omega) ⟨(cw_i32 _).1, (cw_i32 _).2⟩ (fun h125 Th125 wh125 => ?_)
            have Fh125 : cw_Fr cw_Ds cw_sh kk_X5_readLaw.2.2.2.2.2.1 h0 h125 := cw_Fr_tr Fh123 (cw_Fr_wrr wh125 (k := (b + 4)) (d := 31) hkb4 rfl (by decide +kernel))
            have eh125_b_2 : ri_at h125 b 2 = kF := (ri_ne wh125 (.inl (cw_kne (k := b) (d := 4) (k' := (b + 4)) (d' := 31) hb4 hkb4 (by decide)))).trans eh123_b_2
            clear eh123_b_2
            have eh125_b_3 : ri_at h125 b 3 = kF := (ri_ne wh125 (.inl (cw_kne (k := b) (d := 4) (k' := (b + 4)) (d' := 31) hb4 hkb4 (by decide)))).trans eh123_b_3
            clear eh123_b_3
            have Sh125 := zCs_wr (d := 31) (k := (b + 4)) wh125 hkb4 Sh123 (.inl ⟨by decide, by decide⟩)
            refine ex_al oq_X5_readLaw_127 gL121_0 ?_
            refine ex_gf oq_X5_readLaw_128 Th125 (k := 50) (d := 5) rfl rfl ((hPL _ Fh125).1) ?_
            refine ex_gf oq_X5_readLaw_131 Th125 (k := b) (d := 4) hb4 rfl ((show cw_at h125 b 6 = some (cv_r (b + 5)) from (hPL _ Fh125).2.1 6 (by decide))) ?_
            refine ex_il oq_X5_readLaw_134 gL121_1 ?_
            refine ex_al oq_X5_readLaw_135 gL121_0 ?_
            refine ex_gf oq_X5_readLaw_136 Th125 (k := 50) (d := 5) rfl rfl (ri_ref (k := 50) (k' := 53) (d := 5) (f := 1) Th125 rfl rfl rfl (by decide) (ri_uniq (by decide +kernel))) ?_
            obtain ⟨x126, ax126, rx126, lx126, ux126⟩ := ri_fld (k := 53) (d := 0) (f := 4) Th125 rfl rfl rfl
            try dsimp only at lx126 ux126
            refine ex_gf oq_X5_readLaw_139 Th125 (k := 53) (d := 0) rfl rfl ax126 ?_
            clear lx126 ux126
            refine ex_iw1 oq_X5_readLaw_142 Th125 (k := (b + 5)) (d := 32) (j := (zw t n (zx t n p) - 5).toNat) hkb5 rfl (by omega) (by omega) ⟨(cw_i32 _).1, (cw_i32 _).2⟩ (fun h127 Th127 wh127 => ?_)
            have Fh127 : cw_Fr cw_Ds cw_sh kk_X5_readLaw.2.2.2.2.2.1 h0 h127 := cw_Fr_tr Fh125 (cw_Fr_wrr wh127 (k := (b + 5)) (d := 32) hkb5 rfl (by decide +kernel))
            have eh127_b_2 : ri_at h127 b 2 = kF := (ri_ne wh127 (.inl (cw_kne (k := b) (d := 4) (k' := (b + 5)) (d' := 32) hb4 hkb5 (by decide)))).trans eh125_b_2
            clear eh125_b_2
            have eh127_b_3 : ri_at h127 b 3 = kF := (ri_ne wh127 (.inl (cw_kne (k := b) (d := 4) (k' := (b + 5)) (d' := 32) hb4 hkb5 (by decide)))).trans eh125_b_3
            clear eh125_b_3
            have Sh127 := zCs_wr (d := 32) (k := (b + 5)) wh127 hkb5 Sh125 (.inl ⟨by decide, by decide⟩)
            have hgt := (zfc_k 901 [] kn 1 1 (zx t n (zx t n p)) kF qF (by omega) (by omega) eF).2 rfl
            have a3 : ∀ i, ri_at h127 (b + 3) i = ri_at h123 (b + 3) i := fun i => ((ri_ne wh127 (.inl (cw_kne (k := (b + 3)) (d := 30) (k' := (b + 5)) (d' := 32) hkb3 hkb5 (by decide)))).trans (ri_ne wh125 (.inl (cw_kne (k := (b + 3)) (d := 30) (k' := (b + 4)) (d' := 31) hkb3 hkb4 (by decide)))))
            have a4 : ∀ i, ri_at h127 (b + 4) i = ri_at h125 (b + 4) i := fun i => (ri_ne wh127 (.inl (cw_kne (k := (b + 4)) (d := 31) (k' := (b + 5)) (d' := 32) hkb4 hkb5 (by decide))))
            have b3 : ∀ i, ri_at h120 (b + 3) i = ri_at h0 (b + 3) i := fun i => ((ri_frr Ch120 (k := (b + 3)) (d := 30) hkb3 rfl (by decide +kernel)).trans ((ri_frr Ch116 (k := (b + 3)) (d := 30) hkb3 rfl (by decide +kernel)).trans (ri_frr Ch101 (k := (b + 3)) (d := 30) hkb3 rfl (by decide +kernel))))
            have b4 : ∀ i, ri_at h123 (b + 4) i = ri_at h0 (b + 4) i := fun i => ((ri_ne wh123 (.inl (cw_kne (k := (b + 4)) (d := 31) (k' := (b + 3)) (d' := 30) hkb4 hkb3 (by decide)))).trans ((ri_frr Ch120 (k := (b + 4)) (d := 31) hkb4 rfl (by decide +kernel)).trans ((ri_frr Ch116 (k := (b + 4)) (d := 31) hkb4 rfl (by decide +kernel)).trans (ri_frr Ch101 (k := (b + 4)) (d := 31) hkb4 rfl (by decide +kernel)))))
            have hset : zLT b h127 (fun i => if i = zw t n (zx t n p) - 5 then 1 else lt i) := zLT_set (j := (zw t n (zx t n p) - 5).toNat) hlt (by omega) (fun i hi => by rw [a3, ri_ne wh123 (.inr hi), b3]) (fun i hi => by rw [a4, ri_ne wh125 (.inr hi), b4]) (by rw [a3, a4, ri_self wh123, ri_self wh125]; omega)
            have fin : zlc t n lt kn p = .inr ((zw t n (zx t n p) - 5, kF), qF) := by unfold zlc; rw [if_pos (by omega), if_pos (by omega), zb2_r eF]
            exact ex_retv oq_X5_readLaw_143 rfl (hQ h127 Th127 Fh127 ⟨by rw [fin]; exact Sh127, fun v q h => by rw [fin] at h; cases h; exact ⟨hset, by omega, by omega, by dsimp only; omega, lF⟩⟩)
          · replace c122 : ¬ x119.toInt = 0 := by omega
            obtain ⟨cF, qF, eF, xF, lF, SF⟩ : ∃ c q, zfc t n 901 [] kn 1 1 (zx t n (zx t n p)) = .inl (c, za t n q) ∧ x119.toInt = c ∧ 1 ≤ c ∧ zCs t n (.inr q) h120 := by
              rcases dx119 with ⟨k, q, e1, e2, e3⟩ | e
              · exfalso; omega
              · exact e
            refine ex_al oq_X5_readLaw_95 gL121_0 ?_
            refine ex_il oq_X5_readLaw_96 gL121_3 ?_
            refine ex_cv oq_X5_readLaw_97 (by decide) Th120 (k := 50) (d := 5) (as := [cv_i x119]) (stk := []) rfl rfl rfl rfl rfl rfl ⟨rfl, rfl⟩ (R := fun o => ∃ (x : Int32) (hb : cv_H), o = (some (cv_i x), hb) ∧ cw_T G hb ∧ cw_Fr cw_Ds cw_sh kk_X5_fail.2.2.2.2.2.1 h120 hb ∧ x.toInt = 0 ∧ zCs t n (.inl (cF, za t n qF)) hb) (ct_failP (t := t) (n := n) (p := qF) Th120 SF x119 (by omega) (by omega) (fun x hb b1 b2 b3 b4 => ⟨x, hb, rfl, b1, b2, b3, b4⟩)) (fun o ho => ?_)
            obtain ⟨x128, h129, rfl, Th129, Ch129, zh129, Sh129⟩ := ho
            show cw_X _ _ _ _ _ [cv_i x128] h129
            have Fh129 : cw_Fr cw_Ds cw_sh kk_X5_readLaw.2.2.2.2.2.1 h0 h129 := cw_Fr_tr Fh120 (cw_Fr_mono (by decide +kernel) Ch129)
            have eh129_b_2 : ri_at h129 b 2 = ri_at h120 b 2 := ri_frf Ch129 (k := b) (d := 4) hb4 rfl (by decide +kernel)
            have eh129_b_3 : ri_at h129 b 3 = ri_at h120 b 3 := ri_frf Ch129 (k := b) (d := 4) hb4 rfl (by decide +kernel)
            refine ex_pop oq_X5_readLaw_100 rfl ?_
            refine ex_al oq_X5_readLaw_101 gL121_0 ?_
            refine ex_gf oq_X5_readLaw_102 Th129 (k := 50) (d := 5) rfl rfl ((hPL _ Fh129).1) ?_
            refine ex_gf oq_X5_readLaw_105 Th129 (k := b) (d := 4) hb4 rfl ((show cw_at h129 b 4 = some (cv_r (b + 3)) from (hPL _ Fh129).2.1 4 (by decide))) ?_
            refine ex_il oq_X5_readLaw_108 gL121_1 ?_
            refine ex_il oq_X5_readLaw_109 gL121_2 ?_
            refine ex_iw1 oq_X5_readLaw_110 Th129 (k := (b + 3)) (d := 30) (j := (zw t n (zx t n p) - 5).toNat) hkb3 rfl (by omega) (by omega) ⟨(cw_i32 _).1, (cw_i32 _).2⟩ (fun h130 Th130 wh130 => ?_)
            have Fh130 : cw_Fr cw_Ds cw_sh kk_X5_readLaw.2.2.2.2.2.1 h0 h130 := cw_Fr_tr Fh129 (cw_Fr_wrr wh130 (k := (b + 3)) (d := 30) hkb3 rfl (by decide +kernel))
            have eh130_b_2 : ri_at h130 b 2 = ri_at h120 b 2 := (ri_ne wh130 (.inl (cw_kne (k := b) (d := 4) (k' := (b + 3)) (d' := 30) hb4 hkb3 (by decide)))).trans eh129_b_2
            clear eh129_b_2
            have eh130_b_3 : ri_at h130 b 3 = ri_at h120 b 3 := (ri_ne wh130 (.inl (cw_kne (k := b) (d := 4) (k' := (b + 3)) (d' := 30) hb4 hkb3 (by decide)))).trans eh129_b_3
            clear eh129_b_3
            have Sh130 := zCs_wr (d := 30) (k := (b + 3)) wh130 hkb3 Sh129 (.inl ⟨by decide, by decide⟩)
            refine ex_al oq_X5_readLaw_111 gL121_0 ?_
            refine ex_gf oq_X5_readLaw_112 Th130 (k := 50) (d := 5) rfl rfl ((hPL _ Fh130).1) ?_
            refine ex_gf oq_X5_readLaw_115 Th130 (k := b) (d := 4) hb4 rfl ((show cw_at h130 b 5 = some (cv_r (b + 4)) from (hPL _ Fh130).2.1 5 (by decide))) ?_
            refine ex_il oq_X5_readLaw_118 gL121_1 ?_
            refine ex_al oq_X5_readLaw_119 gL121_0 ?_
            refine ex_gf oq_X5_readLaw_120 Th130 (k := 50) (d := 5) rfl rfl ((hPL _ Fh130).1) ?_
            obtain ⟨x131, ax131, rx131, lx131, ux131⟩ := ri_fld (k := b) (d := 4) (f := 2) Th130 hb4 rfl rfl
            try dsimp only at lx131 ux131
            refine ex_gf oq_X5_readLaw_123 Th130 (k := b) (d := 4) hb4 rfl ax131 ?_
            clear lx131 ux131
            have rx131 := (rx131.symm.trans eh130_b_2 : x131.toInt = ri_at h120 b 2)
            refine ex_iw1 oq_X5_readLaw_126 Th130 (k := (b + 4)) (d := 31) (j := (zw t n (zx t n p) - 5).toNat) hkb4 rfl (by omega) (by omega) ⟨(cw_i32 _).1, (cw_i32 _).2⟩ (fun h132 Th132 wh132 => ?_)
            have Fh132 : cw_Fr cw_Ds cw_sh kk_X5_readLaw.2.2.2.2.2.1 h0 h132 := cw_Fr_tr Fh130 (cw_Fr_wrr wh132 (k := (b + 4)) (d := 31) hkb4 rfl (by decide +kernel))
            have eh132_b_2 : ri_at h132 b 2 = ri_at h120 b 2 := (ri_ne wh132 (.inl (cw_kne (k := b) (d := 4) (k' := (b + 4)) (d' := 31) hb4 hkb4 (by decide)))).trans eh130_b_2
            clear eh130_b_2
            have eh132_b_3 : ri_at h132 b 3 = ri_at h120 b 3 := (ri_ne wh132 (.inl (cw_kne (k := b) (d := 4) (k' := (b + 4)) (d' := 31) hb4 hkb4 (by decide)))).trans eh130_b_3
            clear eh130_b_3
            have Sh132 := zCs_wr (d := 31) (k := (b + 4)) wh132 hkb4 Sh130 (.inl ⟨by decide, by decide⟩)
            refine ex_al oq_X5_readLaw_127 gL121_0 ?_
            refine ex_gf oq_X5_readLaw_128 Th132 (k := 50) (d := 5) rfl rfl ((hPL _ Fh132).1) ?_
            refine ex_gf oq_X5_readLaw_131 Th132 (k := b) (d := 4) hb4 rfl ((show cw_at h132 b 6 = some (cv_r (b + 5)) from (hPL _ Fh132).2.1 6 (by decide))) ?_
            refine ex_il oq_X5_readLaw_134 gL121_1 ?_
            refine ex_al oq_X5_readLaw_135 gL121_0 ?_
            refine ex_gf oq_X5_readLaw_136 Th132 (k := 50) (d := 5) rfl rfl (ri_ref (k := 50) (k' := 53) (d := 5) (f := 1) Th132 rfl rfl rfl (by decide) (ri_uniq (by decide +kernel))) ?_
            obtain ⟨x133, ax133, rx133, lx133, ux133⟩ := ri_fld (k := 53) (d := 0) (f := 4) Th132 rfl rfl rfl
            try dsimp only at lx133 ux133
            refine ex_gf oq_X5_readLaw_139 Th132 (k := 53) (d := 0) rfl rfl ax133 ?_
            clear lx133 ux133
            refine ex_iw1 oq_X5_readLaw_142 Th132 (k := (b + 5)) (d := 32) (j := (zw t n (zx t n p) - 5).toNat) hkb5 rfl (by omega) (by omega) ⟨(cw_i32 _).1, (cw_i32 _).2⟩ (fun h134 Th134 wh134 => ?_)
            have Fh134 : cw_Fr cw_Ds cw_sh kk_X5_readLaw.2.2.2.2.2.1 h0 h134 := cw_Fr_tr Fh132 (cw_Fr_wrr wh134 (k := (b + 5)) (d := 32) hkb5 rfl (by decide +kernel))
            have eh134_b_2 : ri_at h134 b 2 = ri_at h120 b 2 := (ri_ne wh134 (.inl (cw_kne (k := b) (d := 4) (k' := (b + 5)) (d' := 32) hb4 hkb5 (by decide)))).trans eh132_b_2
            clear eh132_b_2
            have eh134_b_3 : ri_at h134 b 3 = ri_at h120 b 3 := (ri_ne wh134 (.inl (cw_kne (k := b) (d := 4) (k' := (b + 5)) (d' := 32) hb4 hkb5 (by decide)))).trans eh132_b_3
            clear eh132_b_3
            have Sh134 := zCs_wr (d := 32) (k := (b + 5)) wh134 hkb5 Sh132 (.inl ⟨by decide, by decide⟩)
            have fin : zst (zlc t n lt kn p) = (.inl (cF, za t n qF)) ∧ ∀ v q, zlc t n lt kn p = .inr (v, q) → True := by
              unfold zlc
              rw [if_pos (by omega), if_pos (by omega), zb2_l eF]
              exact ⟨rfl, fun v q h => by first | (cases h; done) | (cases h; rfl) | trivial⟩
            exact ex_retv oq_X5_readLaw_143 rfl (hQ h134 Th134 Fh134 ⟨by rw [fin.1]; exact Sh134, fun v q h => (zst_no fin.1 h).elim⟩)
        · replace c115 : ¬ x114.toInt = 0 := by omega
          refine ex_al oq_X5_readLaw_57 gL110_0 ?_
          refine ex_ic oq_X5_readLaw_58 (m := 3) (by decide) (fun x135 hx135 => ?_)
          refine ex_cv oq_X5_readLaw_59 (by decide) Th101 (k := 50) (d := 5) (as := [cv_i x135]) (stk := []) rfl rfl rfl rfl rfl rfl ⟨rfl, rfl⟩ (R := fun o => ∃ (x : Int32) (hb : cv_H), o = (some (cv_i x), hb) ∧ cw_T G hb ∧ cw_Fr cw_Ds cw_sh kk_X5_fail.2.2.2.2.2.1 h101 hb ∧ x.toInt = 0 ∧ zCs t n (.inl (3, za t n (zx t n p))) hb) (ct_failP (t := t) (n := n) (p := (zx t n p)) Th101 Sh101 x135 hx135 (by decide) (fun x hb b1 b2 b3 b4 => ⟨x, hb, rfl, b1, b2, b3, b4⟩)) (fun o ho => ?_)
          obtain ⟨x136, h137, rfl, Th137, Ch137, zh137, Sh137⟩ := ho
          show cw_X _ _ _ _ _ [cv_i x136] h137
          have Fh137 : cw_Fr cw_Ds cw_sh kk_X5_readLaw.2.2.2.2.2.1 h0 h137 := cw_Fr_tr Fh101 (cw_Fr_mono (by decide +kernel) Ch137)
          have eh137_b_2 : ri_at h137 b 2 = kn := (ri_frf Ch137 (k := b) (d := 4) hb4 rfl (by decide +kernel)).trans eh101_b_2
          clear eh101_b_2
          have eh137_b_3 : ri_at h137 b 3 = kn := (ri_frf Ch137 (k := b) (d := 4) hb4 rfl (by decide +kernel)).trans eh101_b_3
          clear eh101_b_3
          refine ex_pop oq_X5_readLaw_62 rfl ?_
          have fin : zst (zlc t n lt kn p) = (.inl (3, za t n (zx t n p))) ∧ ∀ v q, zlc t n lt kn p = .inr (v, q) → True := by
            unfold zlc
            rw [if_pos (by omega), if_neg (by omega)]
            exact ⟨rfl, fun v q h => by first | (cases h; done) | (cases h; rfl) | trivial⟩
          exact ex_retv oq_X5_readLaw_63 rfl (hQ h137 Th137 Fh137 ⟨by rw [fin.1]; exact Sh137, fun v q h => (zst_no fin.1 h).elim⟩)
  · replace c105 : x104.toInt = 0 := by omega
    replace dx104 := bit_n dx104 c105
    have rl138 := rl_pw (show tz_rel _ _ _ _ from ydh101)
    refine ex_al oq_X5_readLaw_20 rfl ?_
    refine ex_ic oq_X5_readLaw_21 (m := 1) (by decide) (fun x139 hx139 => ?_)
    refine ex_cv oq_X5_readLaw_22 (by decide) Th101 (k := 50) (d := 5) (as := [cv_i x139]) (stk := []) rfl rfl rfl rfl rfl rfl ⟨rfl, rfl⟩ (R := fun o => ∃ (x : Int32) (hb : cv_H), o = (some (cv_i x), hb) ∧ cw_T G hb ∧ cw_Fr cw_Ds cw_sh kk_X5_fail.2.2.2.2.2.1 h101 hb ∧ x.toInt = 0 ∧ zCs t n (.inl (1, za t n (zx t n p))) hb) (ct_failP (t := t) (n := n) (p := (zx t n p)) Th101 Sh101 x139 hx139 (by decide) (fun x hb b1 b2 b3 b4 => ⟨x, hb, rfl, b1, b2, b3, b4⟩)) (fun o ho => ?_)
    obtain ⟨x140, h141, rfl, Th141, Ch141, zh141, Sh141⟩ := ho
    show cw_X _ _ _ _ _ [cv_i x140] h141
    have Fh141 : cw_Fr cw_Ds cw_sh kk_X5_readLaw.2.2.2.2.2.1 h0 h141 := cw_Fr_tr Fh101 (cw_Fr_mono (by decide +kernel) Ch141)
    have eh141_b_2 : ri_at h141 b 2 = kn := (ri_frf Ch141 (k := b) (d := 4) hb4 rfl (by decide +kernel)).trans eh101_b_2
    clear eh101_b_2
    have eh141_b_3 : ri_at h141 b 3 = kn := (ri_frf Ch141 (k := b) (d := 4) hb4 rfl (by decide +kernel)).trans eh101_b_3
    clear eh101_b_3
    refine ex_pop oq_X5_readLaw_25 rfl ?_
    have fin : zst (zlc t n lt kn p) = (.inl (1, za t n (zx t n p))) ∧ ∀ v q, zlc t n lt kn p = .inr (v, q) → True := by
      unfold zlc
      rw [if_neg (by omega)]
      exact ⟨rfl, fun v q h => by first | (cases h; done) | (cases h; rfl) | trivial⟩
    exact ex_retv oq_X5_readLaw_26 rfl (hQ h141 Th141 Fh141 ⟨by rw [fin.1]; exact Sh141, fun v q h => (zst_no fin.1 h).elim⟩)
end TZ
end
section
/-! ===== a plan made plain: the class ===== -/
section TZ
variable {G : Int} {X : cv_X} {Q : cv_O → Prop} {t : Nat → Int}
theorem oq_X7_clear_0 : cw_ho 86 0 (.aload_n 0) 1 0 0 0 := rfl
theorem oq_X7_clear_1 : cw_ho 86 1 (.bipush 24) 2 0 0 0 := rfl
theorem oq_X7_clear_3 : cw_ho 86 3 (.putfield 18) 3 7 0 0 := rfl
theorem oq_X7_clear_6 : cw_ho 86 6 (.aload_n 0) 1 0 0 0 := rfl
theorem oq_X7_clear_7 : cw_ho 86 7 (.bipush 20) 2 0 0 0 := rfl
theorem oq_X7_clear_9 : cw_ho 86 9 (.putfield 22) 3 7 2 0 := rfl
theorem oq_X7_clear_12 : cw_ho 86 12 (.aload_n 0) 1 0 0 0 := rfl
theorem oq_X7_clear_13 : cw_ho 86 13 (.bipush 24) 2 0 0 0 := rfl
theorem oq_X7_clear_15 : cw_ho 86 15 (.invokevirtual 25) 3 87 1 7 := rfl
theorem oq_X7_clear_18 : cw_ho 86 18 (.aload_n 0) 1 0 0 0 := rfl
theorem oq_X7_clear_19 : cw_ho 86 19 (.iconst 0) 1 0 0 0 := rfl
theorem oq_X7_clear_20 : cw_ho 86 20 (.putfield 29) 3 7 5 0 := rfl
theorem oq_X7_clear_23 : cw_ho 86 23 (.aload_n 0) 1 0 0 0 := rfl
theorem oq_X7_clear_24 : cw_ho 86 24 (.iconst 0) 1 0 0 0 := rfl
theorem oq_X7_clear_25 : cw_ho 86 25 (.putfield 32) 3 7 6 0 := rfl
theorem oq_X7_clear_28 : cw_ho 86 28 (.aload_n 0) 1 0 0 0 := rfl
theorem oq_X7_clear_29 : cw_ho 86 29 (.bipush 36) 2 0 0 0 := rfl
theorem oq_X7_clear_31 : cw_ho 86 31 (.putfield 35) 3 7 7 0 := rfl
theorem oq_X7_clear_34 : cw_ho 86 34 (.aload_n 0) 1 0 0 0 := rfl
theorem oq_X7_clear_35 : cw_ho 86 35 (.bipush 8) 2 0 0 0 := rfl
theorem oq_X7_clear_37 : cw_ho 86 37 (.putfield 38) 3 7 8 0 := rfl
theorem oq_X7_clear_40 : cw_ho 86 40 (.aload_n 0) 1 0 0 0 := rfl
theorem oq_X7_clear_41 : cw_ho 86 41 (.iconst 0) 1 0 0 0 := rfl
theorem oq_X7_clear_42 : cw_ho 86 42 (.putfield 41) 3 7 9 0 := rfl
theorem oq_X7_clear_45 : cw_ho 86 45 (.aload_n 0) 1 0 0 0 := rfl
theorem oq_X7_clear_46 : cw_ho 86 46 (.sipush 1000) 3 0 0 0 := rfl
theorem oq_X7_clear_49 : cw_ho 86 49 (.putfield 44) 3 7 10 0 := rfl
theorem oq_X7_clear_52 : cw_ho 86 52 (.aload_n 0) 1 0 0 0 := rfl
theorem oq_X7_clear_53 : cw_ho 86 53 (.sipush 1000) 3 0 0 0 := rfl
theorem oq_X7_clear_56 : cw_ho 86 56 (.putfield 47) 3 7 11 0 := rfl
theorem oq_X7_clear_59 : cw_ho 86 59 (.aload_n 0) 1 0 0 0 := rfl
theorem oq_X7_clear_60 : cw_ho 86 60 (.iconst 0) 1 0 0 0 := rfl
theorem oq_X7_clear_61 : cw_ho 86 61 (.putfield 50) 3 7 12 0 := rfl
theorem oq_X7_clear_64 : cw_ho 86 64 (.aload_n 0) 1 0 0 0 := rfl
theorem oq_X7_clear_65 : cw_ho 86 65 (.sipush 3000) 3 0 0 0 := rfl
theorem oq_X7_clear_68 : cw_ho 86 68 (.putfield 53) 3 7 13 0 := rfl
theorem oq_X7_clear_71 : cw_ho 86 71 (.aload_n 0) 1 0 0 0 := rfl
theorem oq_X7_clear_72 : cw_ho 86 72 (.iconst 0) 1 0 0 0 := rfl
theorem oq_X7_clear_73 : cw_ho 86 73 (.putfield 56) 3 7 14 0 := rfl
theorem oq_X7_clear_76 : cw_ho 86 76 (.aload_n 0) 1 0 0 0 := rfl
theorem oq_X7_clear_77 : cw_ho 86 77 (.iconst 0) 1 0 0 0 := rfl
theorem oq_X7_clear_78 : cw_ho 86 78 (.putfield 59) 3 7 15 0 := rfl
theorem oq_X7_clear_81 : cw_ho 86 81 (.iconst 0) 1 0 0 0 := rfl
theorem oq_X7_clear_82 : cw_ho 86 82 (.istore_n 1) 1 0 0 0 := rfl
theorem oq_X7_clear_83 : cw_ho 86 83 (.iload_n 1) 1 0 0 0 := rfl
theorem oq_X7_clear_84 : cw_ho 86 84 (.aload_n 0) 1 0 0 0 := rfl
theorem oq_X7_clear_85 : cw_ho 86 85 (.getfield 9) 3 7 16 4 := rfl
theorem oq_X7_clear_88 : cw_ho 86 88 (.arraylength) 1 0 0 0 := rfl
theorem oq_X7_clear_89 : cw_ho 86 89 (.if_icmp .ge 16) 3 0 0 0 := rfl
theorem oq_X7_clear_92 : cw_ho 86 92 (.aload_n 0) 1 0 0 0 := rfl
theorem oq_X7_clear_93 : cw_ho 86 93 (.getfield 9) 3 7 16 4 := rfl
theorem oq_X7_clear_96 : cw_ho 86 96 (.iload_n 1) 1 0 0 0 := rfl
theorem oq_X7_clear_97 : cw_ho 86 97 (.iconst 0) 1 0 0 0 := rfl
theorem oq_X7_clear_98 : cw_ho 86 98 (.iastore) 1 0 0 0 := rfl
theorem oq_X7_clear_99 : cw_ho 86 99 (.iinc 1 1) 3 0 0 0 := rfl
theorem oq_X7_clear_102 : cw_ho 86 102 (.goto (-19)) 3 0 0 0 := rfl
theorem oq_X7_clear_105 : cw_ho 86 105 (.return_) 1 0 0 0 := rfl
/-- the parts of a plan, wherever the reader stands -/
def zPM (b : Nat) (h : cv_H) : Prop := (∀ i, i ∈ [0, 1, 4, 5, 6, 7, 8, 10, 11, 12, 13, 15, 16, 17, 18] → cw_at h b i = some (cv_r (b + zps i))) ∧ ∀ i, i < 4 → cw_at h (b + 6) i = some (cv_r (b + 16 + 2 * i))
theorem zPM_fr {b m : Nat} {h h' : cv_H} (hb : b = 2 ∨ b = 26) (C : cw_Fr cw_Ds cw_sh m h h') (q : ([0, 1, 4, 5, 6, 7, 8, 10, 11, 12, 13, 15, 16, 17, 18].all (fun i => !cw_bit m 4 i) && !cw_bit m 33 0) = true) (hp : zPM b h) : zPM b h' := by
  rw [Bool.and_eq_true, List.all_eq_true] at q
  have k4 : cw_sh[b]? = some 4 := by rcases hb with rfl | rfl <;> rfl
  have k6 : cw_sh[b + 6]? = some 33 := by rcases hb with rfl | rfl <;> rfl
  refine ⟨fun i hi => (C.2 b 4 i k4 ?_).trans (hp.1 i hi), fun i hi => (C.2 (b + 6) 33 i k6 ?_).trans (hp.2 i hi)⟩
  · show cw_bit m 4 i = false
    simpa using q.1 i hi
  · show cw_bit m 33 0 = false
    simpa using q.2
theorem oq_X4_clear_0 : cw_ho 49 0 (.iconst 0) 1 0 0 0 := rfl
theorem oq_X4_clear_1 : cw_ho 49 1 (.istore_n 1) 1 0 0 0 := rfl
theorem oq_X4_clear_2 : cw_ho 49 2 (.iload_n 1) 1 0 0 0 := rfl
theorem oq_X4_clear_3 : cw_ho 49 3 (.bipush 12) 2 0 0 0 := rfl
theorem oq_X4_clear_5 : cw_ho 49 5 (.if_icmp .ge 17) 3 0 0 0 := rfl
theorem oq_X4_clear_8 : cw_ho 49 8 (.aload_n 0) 1 0 0 0 := rfl
theorem oq_X4_clear_9 : cw_ho 49 9 (.getfield 9) 3 4 0 4 := rfl
theorem oq_X4_clear_12 : cw_ho 49 12 (.iload_n 1) 1 0 0 0 := rfl
theorem oq_X4_clear_13 : cw_ho 49 13 (.bipush 50) 2 0 0 0 := rfl
theorem oq_X4_clear_15 : cw_ho 49 15 (.iastore) 1 0 0 0 := rfl
theorem oq_X4_clear_16 : cw_ho 49 16 (.iinc 1 1) 3 0 0 0 := rfl
theorem oq_X4_clear_19 : cw_ho 49 19 (.goto (-17)) 3 0 0 0 := rfl
theorem oq_X4_clear_22 : cw_ho 49 22 (.iconst 0) 1 0 0 0 := rfl
theorem oq_X4_clear_23 : cw_ho 49 23 (.istore_n 1) 1 0 0 0 := rfl
theorem oq_X4_clear_24 : cw_ho 49 24 (.iload_n 1) 1 0 0 0 := rfl
theorem oq_X4_clear_25 : cw_ho 49 25 (.iconst 4) 1 0 0 0 := rfl
theorem oq_X4_clear_26 : cw_ho 49 26 (.if_icmp .ge 30) 3 0 0 0 := rfl
theorem oq_X4_clear_29 : cw_ho 49 29 (.aload_n 0) 1 0 0 0 := rfl
theorem oq_X4_clear_30 : cw_ho 49 30 (.getfield 18) 3 4 4 4 := rfl
theorem oq_X4_clear_33 : cw_ho 49 33 (.iload_n 1) 1 0 0 0 := rfl
theorem oq_X4_clear_34 : cw_ho 49 34 (.iconst 0) 1 0 0 0 := rfl
theorem oq_X4_clear_35 : cw_ho 49 35 (.iastore) 1 0 0 0 := rfl
theorem oq_X4_clear_36 : cw_ho 49 36 (.aload_n 0) 1 0 0 0 := rfl
theorem oq_X4_clear_37 : cw_ho 49 37 (.getfield 21) 3 4 5 4 := rfl
theorem oq_X4_clear_40 : cw_ho 49 40 (.iload_n 1) 1 0 0 0 := rfl
theorem oq_X4_clear_41 : cw_ho 49 41 (.iconst 0) 1 0 0 0 := rfl
theorem oq_X4_clear_42 : cw_ho 49 42 (.iastore) 1 0 0 0 := rfl
theorem oq_X4_clear_43 : cw_ho 49 43 (.aload_n 0) 1 0 0 0 := rfl
theorem oq_X4_clear_44 : cw_ho 49 44 (.getfield 24) 3 4 6 4 := rfl
theorem oq_X4_clear_47 : cw_ho 49 47 (.iload_n 1) 1 0 0 0 := rfl
theorem oq_X4_clear_48 : cw_ho 49 48 (.iconst 0) 1 0 0 0 := rfl
theorem oq_X4_clear_49 : cw_ho 49 49 (.iastore) 1 0 0 0 := rfl
theorem oq_X4_clear_50 : cw_ho 49 50 (.iinc 1 1) 3 0 0 0 := rfl
theorem oq_X4_clear_53 : cw_ho 49 53 (.goto (-29)) 3 0 0 0 := rfl
theorem oq_X4_clear_56 : cw_ho 49 56 (.iconst 0) 1 0 0 0 := rfl
theorem oq_X4_clear_57 : cw_ho 49 57 (.istore_n 1) 1 0 0 0 := rfl
theorem oq_X4_clear_58 : cw_ho 49 58 (.iload_n 1) 1 0 0 0 := rfl
theorem oq_X4_clear_59 : cw_ho 49 59 (.iconst 4) 1 0 0 0 := rfl
theorem oq_X4_clear_60 : cw_ho 49 60 (.if_icmp .ge 18) 3 0 0 0 := rfl
theorem oq_X4_clear_63 : cw_ho 49 63 (.aload_n 0) 1 0 0 0 := rfl
theorem oq_X4_clear_64 : cw_ho 49 64 (.getfield 29) 3 4 7 4 := rfl
theorem oq_X4_clear_67 : cw_ho 49 67 (.iload_n 1) 1 0 0 0 := rfl
theorem oq_X4_clear_68 : cw_ho 49 68 (.aaload) 1 0 0 0 := rfl
theorem oq_X4_clear_69 : cw_ho 49 69 (.invokevirtual 64) 3 86 0 7 := rfl
theorem oq_X4_clear_72 : cw_ho 49 72 (.iinc 1 1) 3 0 0 0 := rfl
theorem oq_X4_clear_75 : cw_ho 49 75 (.goto (-17)) 3 0 0 0 := rfl
theorem oq_X4_clear_78 : cw_ho 49 78 (.aload_n 0) 1 0 0 0 := rfl
theorem oq_X4_clear_79 : cw_ho 49 79 (.iconst 0) 1 0 0 0 := rfl
theorem oq_X4_clear_80 : cw_ho 49 80 (.putfield 65) 3 4 2 0 := rfl
theorem oq_X4_clear_83 : cw_ho 49 83 (.aload_n 0) 1 0 0 0 := rfl
theorem oq_X4_clear_84 : cw_ho 49 84 (.iconst 0) 1 0 0 0 := rfl
theorem oq_X4_clear_85 : cw_ho 49 85 (.putfield 69) 3 4 3 0 := rfl
theorem oq_X4_clear_88 : cw_ho 49 88 (.aload_n 0) 1 0 0 0 := rfl
theorem oq_X4_clear_89 : cw_ho 49 89 (.iconst 0) 1 0 0 0 := rfl
theorem oq_X4_clear_90 : cw_ho 49 90 (.putfield 72) 3 4 9 0 := rfl
theorem oq_X4_clear_93 : cw_ho 49 93 (.aload_n 0) 1 0 0 0 := rfl
theorem oq_X4_clear_94 : cw_ho 49 94 (.iconst 0) 1 0 0 0 := rfl
theorem oq_X4_clear_95 : cw_ho 49 95 (.putfield 75) 3 4 14 0 := rfl
theorem oq_X4_clear_98 : cw_ho 49 98 (.aload_n 0) 1 0 0 0 := rfl
theorem oq_X4_clear_99 : cw_ho 49 99 (.iconst 0) 1 0 0 0 := rfl
theorem oq_X4_clear_100 : cw_ho 49 100 (.putfield 78) 3 4 19 0 := rfl
theorem oq_X4_clear_103 : cw_ho 49 103 (.return_) 1 0 0 0 := rfl
theorem oq_X6_begin_0 : cw_ho 77 0 (.aload_n 0) 1 0 0 0 := rfl
theorem oq_X6_begin_1 : cw_ho 77 1 (.iconst 0) 1 0 0 0 := rfl
theorem oq_X6_begin_2 : cw_ho 77 2 (.iload_n 1) 1 0 0 0 := rfl
theorem oq_X6_begin_3 : cw_ho 77 3 (.aload_n 0) 1 0 0 0 := rfl
theorem oq_X6_begin_4 : cw_ho 77 4 (.getfield 15) 3 6 0 4 := rfl
theorem oq_X6_begin_7 : cw_ho 77 7 (.arraylength) 1 0 0 0 := rfl
theorem oq_X6_begin_8 : cw_ho 77 8 (.invokestatic 35) 3 9002 2 0 := rfl
theorem oq_X6_begin_11 : cw_ho 77 11 (.invokestatic 40) 3 9001 2 0 := rfl
theorem oq_X6_begin_14 : cw_ho 77 14 (.putfield 43) 3 6 2 0 := rfl
theorem oq_X6_begin_17 : cw_ho 77 17 (.aload_n 0) 1 0 0 0 := rfl
theorem oq_X6_begin_18 : cw_ho 77 18 (.iconst 0) 1 0 0 0 := rfl
theorem oq_X6_begin_19 : cw_ho 77 19 (.putfield 46) 3 6 3 0 := rfl
theorem oq_X6_begin_22 : cw_ho 77 22 (.aload_n 0) 1 0 0 0 := rfl
theorem oq_X6_begin_23 : cw_ho 77 23 (.invokevirtual 49) 3 78 0 6 := rfl
theorem oq_X6_begin_26 : cw_ho 77 26 (.return_) 1 0 0 0 := rfl
theorem ct_begin {h0 : cv_H} {n : Nat} (ht : ∀ i, t i = ri_at h0 1 i % 256) (hwd : ∀ i, i < 34 → ri_at h0 52 i = tz_wc.getD i 0) (hn9 : n ≤ 900) (hT : cw_T G h0) {N : Int32} (hN : N.toInt = n) (hQ : ∀ h', cw_T G h' → cw_Fr cw_Ds cw_sh kk_X6_begin.2.2.2.2.2.1 h0 h' → zC t n 0 h' → Q (none, h')) : cw_X X 77 Q 0 (cv_ent 0 [cv_r 51, cv_i N]) [] h0 := by
  have Fh0 : cw_Fr cw_Ds cw_sh kk_X6_begin.2.2.2.2.2.1 h0 h0 := cw_Fr_refl
  have hA : ∀ h, cw_Fr cw_Ds cw_sh kk_X6_begin.2.2.2.2.2.1 h0 h → ∀ i, ri_at h 1 i = ri_at h0 1 i := fun h F i => ri_frr F (k := 1) (d := 13) rfl rfl (by decide +kernel)
  have hB : ∀ h, cw_Fr cw_Ds cw_sh kk_X6_begin.2.2.2.2.2.1 h0 h → ∀ i, ri_at h 52 i = ri_at h0 52 i := fun h F i => ri_frr F (k := 52) (d := 43) rfl rfl (by decide +kernel)
  refine ex_al oq_X6_begin_0 rfl ?_
  refine ex_ic oq_X6_begin_1 (m := 0) (by decide) (fun x11 hx11 => ?_)
  refine ex_il oq_X6_begin_2 rfl ?_
  refine ex_al oq_X6_begin_3 rfl ?_
  refine ex_gf oq_X6_begin_4 hT (k := 51) (d := 6) rfl rfl (ri_ref (k := 51) (k' := 1) (d := 6) (f := 0) hT rfl rfl rfl (by decide) (ri_uniq (by decide +kernel))) ?_
  refine ex_len oq_X6_begin_7 hT (k := 1) (d := 13) rfl rfl (by decide) (fun x12 hx12 => ?_)
  refine ex_min oq_X6_begin_8 (by decide) (Nat.le_of_ble_eq_true rfl) (fun x13 hx13 => ?_)
  refine ex_max oq_X6_begin_11 (by decide) (Nat.le_of_ble_eq_true rfl) (fun x14 hx14 => ?_)
  refine ex_pfi oq_X6_begin_14 hT (k := 51) (d := 6) rfl rfl rfl (by omega) (by omega) (fun h15 Th15 wh15 => ?_)
  have Fh15 : cw_Fr cw_Ds cw_sh kk_X6_begin.2.2.2.2.2.1 h0 h15 := cw_Fr_tr Fh0 (cw_Fr_wrf wh15 (k := 51) (d := 6) rfl rfl (by decide +kernel))
  have eh15_51_2 : ri_at h15 51 2 = x14.toInt := ri_self wh15
  have eh15_51_3 : ri_at h15 51 3 = ri_at h0 51 3 := ri_ne wh15 (.inr (by decide))
  refine ex_al oq_X6_begin_17 rfl ?_
  refine ex_ic oq_X6_begin_18 (m := 0) (by decide) (fun x16 hx16 => ?_)
  refine ex_pfi oq_X6_begin_19 Th15 (k := 51) (d := 6) rfl rfl rfl (by omega) (by omega) (fun h17 Th17 wh17 => ?_)
  have Fh17 : cw_Fr cw_Ds cw_sh kk_X6_begin.2.2.2.2.2.1 h0 h17 := cw_Fr_tr Fh15 (cw_Fr_wrf wh17 (k := 51) (d := 6) rfl rfl (by decide +kernel))
  have eh17_51_2 : ri_at h17 51 2 = x14.toInt := (ri_ne wh17 (.inr (by decide))).trans eh15_51_2
  clear eh15_51_2
  have eh17_51_3 : ri_at h17 51 3 = x16.toInt := ri_self wh17
  refine ex_al oq_X6_begin_22 rfl ?_
  refine ex_cv oq_X6_begin_23 (by decide) Th17 (k := 51) (d := 6) (as := []) (stk := []) rfl rfl rfl rfl rfl rfl ⟨rfl, rfl⟩ (R := fun o => ∃ hb : cv_H, o = (none, hb) ∧ cw_T G hb ∧ cw_Fr cw_Ds cw_sh kk_X6_step.2.2.2.2.2.1 h17 hb ∧ zC t n 0 hb) (ct_step (t := t) (n := n) (p := 0) (fun i => by rw [ht, ← hA _ Fh17]) (fun i hi => by rw [hB _ Fh17]; exact hwd i hi) Th17 hn9 (by omega) (by omega) (fun hb b1 b2 b3 b4 b5 b6 => ⟨hb, rfl, b1, b2, b3, b4, b5, b6⟩)) (fun o ho => ?_)
  obtain ⟨hb, rfl, Tb, Cb, Zb⟩ := ho
  show cw_X _ _ _ _ _ [] hb
  have Fhb : cw_Fr cw_Ds cw_sh kk_X6_begin.2.2.2.2.2.1 h0 hb := cw_Fr_tr Fh17 (cw_Fr_mono (by decide +kernel) Cb)
  exact ex_retv oq_X6_begin_26 rfl (hQ hb Tb Fhb Zb)
end TZ
end
section
/-! ===== a text: the class ===== -/
/-- what the class has read -/
def zSC (b : Nat) (h : cv_H) (s : zSg) : Prop := ri_at h 50 3 = s.1 ∧ zLT b h s.2.1 ∧ (ri_at h b 2 = s.2.2.1 ∧ ri_at h b 3 = s.2.2.1 ∧ 0 ≤ s.2.2.1 ∧ s.2.2.1 ≤ 64) ∧ (ri_at h b 9 = s.2.2.2.1.length ∧ zNm h (b + 7) 0 s.2.2.2.1) ∧ (ri_at h b 14 = s.2.2.2.2.1.length ∧ zNm h (b + 8) 0 s.2.2.2.2.1) ∧ (ri_at h b 19 = s.2.2.2.2.2.length ∧ zNm h (b + 12) 0 s.2.2.2.2.2) ∧ ∀ i, s.2.2.2.1.length ≤ i → i < 4 → ri_at h (b + 16 + 2 * i) 14 = 0 ∧ ri_at h (b + 16 + 2 * i) 15 = 0
section ZS
variable {b m : Nat} {h h' : cv_H}
theorem sc_3 (C : cw_Fr cw_Ds cw_sh m h h') (q : cw_bit m 5 3 = false) : ri_at h' 50 3 = ri_at h 50 3 := ri_frf C (k := 50) (d := 5) rfl rfl q
theorem sc_lt {lt : Int → Int} (hb : b = 2 ∨ b = 26) (C : cw_Fr cw_Ds cw_sh m h h') (q : (cw_bit m 30 0 || cw_bit m 30 1) = false) (q' : (cw_bit m 31 0 || cw_bit m 31 1) = false) (hl : zLT b h lt) : zLT b h' lt :=
  zLT_eq hl (fun i => ri_frr C (k := b + 3) (d := 30) (by rcases hb with rfl | rfl <;> rfl) rfl q) (fun i => ri_frr C (k := b + 4) (d := 31) (by rcases hb with rfl | rfl <;> rfl) rfl q')
theorem sc_f (hb : b = 2 ∨ b = 26) (C : cw_Fr cw_Ds cw_sh m h h') (i : Nat) (q : cw_bit m 4 i = false) : ri_at h' b i = ri_at h b i := ri_frf C (k := b) (d := 4) (by rcases hb with rfl | rfl <;> rfl) rfl q
theorem sc_kn {kn : Int} (hb : b = 2 ∨ b = 26) (C : cw_Fr cw_Ds cw_sh m h h') (q : cw_bit m 4 2 = false) (q' : cw_bit m 4 3 = false) (hk : ri_at h b 2 = kn ∧ ri_at h b 3 = kn ∧ 0 ≤ kn ∧ kn ≤ 64) : ri_at h' b 2 = kn ∧ ri_at h' b 3 = kn ∧ 0 ≤ kn ∧ kn ≤ 64 := ⟨(sc_f hb C 2 q).trans hk.1, (sc_f hb C 3 q').trans hk.2.1, hk.2.2⟩
theorem sc_g {l : List Int} (hb : b = 2 ∨ b = 26) (C : cw_Fr cw_Ds cw_sh m h h') (q : cw_bit m 4 9 = false) (q' : (cw_bit m 34 0 || cw_bit m 34 1) = false) (hl : ri_at h b 9 = l.length ∧ zNm h (b + 7) 0 l) : ri_at h' b 9 = l.length ∧ zNm h' (b + 7) 0 l := ⟨(sc_f hb C 9 q).trans hl.1, zNm_eq hl.2 (fun i => ri_frr C (k := b + 7) (d := 34) (by rcases hb with rfl | rfl <;> rfl) rfl q')⟩
theorem sc_w {l : List Int} (hb : b = 2 ∨ b = 26) (C : cw_Fr cw_Ds cw_sh m h h') (q : cw_bit m 4 14 = false) (q' : (cw_bit m 35 0 || cw_bit m 35 1) = false) (hl : ri_at h b 14 = l.length ∧ zNm h (b + 8) 0 l) : ri_at h' b 14 = l.length ∧ zNm h' (b + 8) 0 l := ⟨(sc_f hb C 14 q).trans hl.1, zNm_eq hl.2 (fun i => ri_frr C (k := b + 8) (d := 35) (by rcases hb with rfl | rfl <;> rfl) rfl q')⟩
theorem sc_c {l : List Int} (hb : b = 2 ∨ b = 26) (C : cw_Fr cw_Ds cw_sh m h h') (q : cw_bit m 4 19 = false) (q' : (cw_bit m 39 0 || cw_bit m 39 1) = false) (hl : ri_at h b 19 = l.length ∧ zNm h (b + 12) 0 l) : ri_at h' b 19 = l.length ∧ zNm h' (b + 12) 0 l := ⟨(sc_f hb C 19 q).trans hl.1, zNm_eq hl.2 (fun i => ri_frr C (k := b + 12) (d := 39) (by rcases hb with rfl | rfl <;> rfl) rfl q')⟩
theorem sc_t {k : Nat} (hb : b = 2 ∨ b = 26) (C : cw_Fr cw_Ds cw_sh m h h') (q : cw_bit m 7 14 = false) (q' : cw_bit m 7 15 = false) (hl : ∀ i, k ≤ i → i < 4 → ri_at h (b + 16 + 2 * i) 14 = 0 ∧ ri_at h (b + 16 + 2 * i) 15 = 0) : ∀ i, k ≤ i → i < 4 → ri_at h' (b + 16 + 2 * i) 14 = 0 ∧ ri_at h' (b + 16 + 2 * i) 15 = 0 := fun i h1 h2 => ⟨(ri_frf C (sh_told hb h2) rfl q).trans (hl i h1 h2).1, (ri_frf C (sh_told hb h2) rfl q').trans (hl i h1 h2).2⟩
end ZS
def zSem {α β : Type} (t : Nat → Int) (n : Nat) (f : α → β) (v : α) (q : Nat) : (Int × Nat) ⊕ (β × Nat) := if zk t n q = 4 ∧ zw t n q = 59 then .inr (f v, zx t n q) else .inl (1, za t n q)
theorem zsm_g {α β : Type} {t : Nat → Int} {n q' : Nat} {z : (Int × Nat) ⊕ (α × Nat)} {f : α → β} (h : zbd (zst z) (zsm t n) = .inr q') : ∃ v q, z = .inr (v, q) ∧ zb2 z (zSem t n f) = .inr (f v, q') := by
  rcases z with e | ⟨v, q⟩
  · cases h
  · refine ⟨v, q, rfl, ?_⟩
    replace h : zsm t n q = .inr q' := h
    show zSem t n f v q = _
    unfold zsm at h
    unfold zSem
    by_cases c : zk t n q = 4 ∧ zw t n q = 59
    · rw [if_pos c] at h ⊢; cases h; rfl
    · rw [if_neg c] at h; cases h
theorem zsm_b {α β : Type} {t : Nat → Int} {n : Nat} {e : Int × Nat} {z : (Int × Nat) ⊕ (α × Nat)} {f : α → β} (h : zbd (zst z) (zsm t n) = .inl e) : zb2 z (zSem t n f) = .inl e := by
  rcases z with e' | ⟨v, q⟩
  · cases h; rfl
  · replace h : zsm t n q = .inl e := h
    show zSem t n f v q = _
    unfold zsm at h
    unfold zSem
    by_cases c : zk t n q = 4 ∧ zw t n q = 59
    · rw [if_pos c] at h; cases h
    · rw [if_neg c] at h ⊢; cases h; rfl
theorem zl0_a {α β : Type} {t : Nat → Int} {n : Nat} {z : (Int × Nat) ⊕ (α × Nat)} {f : α → β} : (zb2 (zb2 z fun v q => .inr (f v, q)) fun (s : β) q => if zk t n q = 4 ∧ zw t n q = 59 then .inr (s, zx t n q) else .inl (1, za t n q)) = zb2 z (zSem t n f) := by
  rcases z with e | ⟨v, q⟩ <;> rfl
theorem zll_lc {β : Type} {t : Nat → Int} {n p : Nat} {lt : Int → Int} {kn : Int} {f : Int × Int → β} : zb2 (zll t n lt kn p) (zSem t n f) = zb2 (zlc t n lt kn p) (zSem t n f) := by
  unfold zll zlc
  by_cases c : zk t n (zx t n p) = 1 ∧ 5 ≤ zw t n (zx t n p) ∧ zw t n (zx t n p) ≤ 8
  · rw [if_pos c, if_pos c]
    by_cases d : lt (zw t n (zx t n p) - 5) = 0
    · rw [if_pos d, if_pos d]
      have a : ∀ z : (Int × Nat) ⊕ (Int × Nat), zb2 (zb2 z fun k q => .inr ((zw t n (zx t n p) - 5, k), q)) (zSem t n f) = zb2 z fun k q => if zk t n q = 4 ∧ zw t n q = 59 then (fun k q => Sum.inr (f (zw t n (zx t n p) - 5, k), zx t n q)) k q else .inl (1, za t n q) := fun z => by rcases z with e | ⟨v, q⟩ <;> rfl
      rw [a, a, zfc_fm 901 [] kn 1 1 _ (Int.le_refl 0)]
    · rw [if_neg d, if_neg d]
  · rw [if_neg c, if_neg c]
def zTc (S : (Int × Nat) ⊕ (zSg × Int)) (x : Int32) (h : cv_H) : Prop := match S with
  | .inl (f, a) => x.toInt = -1 ∧ ri_at h 50 4 = f ∧ ri_at h 50 5 = a
  | .inr (_, k) => x.toInt = k ∧ ri_at h 50 4 = 0 ∧ ri_at h 50 5 = -1
def mk_rx : Nat := 0x10000000000000000000000000000000000000001000000000000000000010000000000000000000100000000000000000001000000000000000000010000000000000000000100000000000000000001000000000000000000010000000000000000000100000000000000000000000000000000000000010000000000000000000100000000000000000001000000000000000000010000000000000000000100000000000000000000000000000000000000000000000000000000000000000000000000000000000000000000000000000000000000000000000000000000000000000000000000000000000000000000000000000000000000000000000000000000000000000000000000000000000000000000000100000000000000000000000000000000000000000000000000000000000000000000000000000000000000000000000000000000000000000000000000000000000000000000000000000000000000000000000000000000ffff00000000000000000078000000000000000000380000000000000008420c000000000000000000000000000000000000000000000000000000000000000000000000000000fc
theorem zSC_sem {b : Nat} {h h' : cv_H} {s : zSg} (hb : b = 2 ∨ b = 26) (C : cw_Fr cw_Ds cw_sh kk_X5_readSemicolon.2.2.2.2.2.1 h h') (hs : zSC b h s) : zSC b h' s := by
  obtain ⟨c3, clt, ckn, cg, cw, cc, cto⟩ := hs
  exact ⟨(sc_3 C (by decide +kernel)).trans c3, sc_lt hb C (by decide +kernel) (by decide +kernel) clt, sc_kn hb C (by decide +kernel) (by decide +kernel) ckn, sc_g hb C (by decide +kernel) (by decide +kernel) cg, sc_w hb C (by decide +kernel) (by decide +kernel) cw, sc_c hb C (by decide +kernel) (by decide +kernel) cc, sc_t hb C (by decide +kernel) (by decide +kernel) cto⟩
section TZ
variable {G : Int} {X : cv_X} {Q : cv_O → Prop} {t : Nat → Int}
theorem oq_X5_readText_0 : cw_ho 60 0 (.aload_n 0) 1 0 0 0 := rfl
theorem oq_X5_readText_1 : cw_ho 60 1 (.aload_n 1) 1 0 0 0 := rfl
theorem oq_X5_readText_2 : cw_ho 60 2 (.putfield 33) 3 5 2 4 := rfl
theorem oq_X5_readText_5 : cw_ho 60 5 (.aload_n 0) 1 0 0 0 := rfl
theorem oq_X5_readText_6 : cw_ho 60 6 (.getfield 33) 3 5 2 4 := rfl
theorem oq_X5_readText_9 : cw_ho 60 9 (.invokevirtual 37) 3 49 0 4 := rfl
theorem oq_X5_readText_12 : cw_ho 60 12 (.aload_n 0) 1 0 0 0 := rfl
theorem oq_X5_readText_13 : cw_ho 60 13 (.iconst 0) 1 0 0 0 := rfl
theorem oq_X5_readText_14 : cw_ho 60 14 (.putfield 42) 3 5 3 2 := rfl
theorem oq_X5_readText_17 : cw_ho 60 17 (.aload_n 0) 1 0 0 0 := rfl
theorem oq_X5_readText_18 : cw_ho 60 18 (.iconst 0) 1 0 0 0 := rfl
theorem oq_X5_readText_19 : cw_ho 60 19 (.putfield 46) 3 5 4 0 := rfl
theorem oq_X5_readText_22 : cw_ho 60 22 (.aload_n 0) 1 0 0 0 := rfl
theorem oq_X5_readText_23 : cw_ho 60 23 (.iconst (-1)) 1 0 0 0 := rfl
theorem oq_X5_readText_24 : cw_ho 60 24 (.putfield 9) 3 5 5 0 := rfl
theorem oq_X5_readText_27 : cw_ho 60 27 (.aload_n 0) 1 0 0 0 := rfl
theorem oq_X5_readText_28 : cw_ho 60 28 (.getfield 20) 3 5 0 4 := rfl
theorem oq_X5_readText_31 : cw_ho 60 31 (.iload_n 2) 1 0 0 0 := rfl
theorem oq_X5_readText_32 : cw_ho 60 32 (.invokevirtual 49) 3 77 1 6 := rfl
theorem oq_X5_readText_35 : cw_ho 60 35 (.iconst 0) 1 0 0 0 := rfl
theorem oq_X5_readText_36 : cw_ho 60 36 (.istore_n 3) 1 0 0 0 := rfl
theorem oq_X5_readText_37 : cw_ho 60 37 (.iload_n 3) 1 0 0 0 := rfl
theorem oq_X5_readText_38 : cw_ho 60 38 (.sipush 900) 3 0 0 0 := rfl
theorem oq_X5_readText_41 : cw_ho 60 41 (.if_icmp .gt 131) 3 0 0 0 := rfl
theorem oq_X5_readText_44 : cw_ho 60 44 (.aload_n 0) 1 0 0 0 := rfl
theorem oq_X5_readText_45 : cw_ho 60 45 (.getfield 20) 3 5 0 4 := rfl
theorem oq_X5_readText_48 : cw_ho 60 48 (.getfield 53) 3 6 4 0 := rfl
theorem oq_X5_readText_51 : cw_ho 60 51 (.ifCond .ne 5) 3 0 0 0 := rfl
theorem oq_X5_readText_54 : cw_ho 60 54 (.iload_n 3) 1 0 0 0 := rfl
theorem oq_X5_readText_55 : cw_ho 60 55 (.ireturn) 1 0 0 0 := rfl
theorem oq_X5_readText_56 : cw_ho 60 56 (.aload_n 0) 1 0 0 0 := rfl
theorem oq_X5_readText_57 : cw_ho 60 57 (.getfield 20) 3 5 0 4 := rfl
theorem oq_X5_readText_60 : cw_ho 60 60 (.getfield 53) 3 6 4 0 := rfl
theorem oq_X5_readText_63 : cw_ho 60 63 (.iconst 2) 1 0 0 0 := rfl
theorem oq_X5_readText_64 : cw_ho 60 64 (.if_icmp .ne 13) 3 0 0 0 := rfl
theorem oq_X5_readText_67 : cw_ho 60 67 (.aload_n 0) 1 0 0 0 := rfl
theorem oq_X5_readText_68 : cw_ho 60 68 (.getfield 20) 3 5 0 4 := rfl
theorem oq_X5_readText_71 : cw_ho 60 71 (.getfield 56) 3 6 6 0 := rfl
theorem oq_X5_readText_74 : cw_ho 60 74 (.goto 4) 3 0 0 0 := rfl
theorem oq_X5_readText_77 : cw_ho 60 77 (.iconst (-1)) 1 0 0 0 := rfl
theorem oq_X5_readText_78 : cw_ho 60 78 (.tableswitch 69 0 4 #[34, 41, 48, 55, 62]) 34 0 0 0 := rfl
theorem oq_X5_readText_112 : cw_ho 60 112 (.aload_n 0) 1 0 0 0 := rfl
theorem oq_X5_readText_113 : cw_ho 60 113 (.invokevirtual 59) 3 65 0 5 := rfl
theorem oq_X5_readText_116 : cw_ho 60 116 (.goto 37) 3 0 0 0 := rfl
theorem oq_X5_readText_119 : cw_ho 60 119 (.aload_n 0) 1 0 0 0 := rfl
theorem oq_X5_readText_120 : cw_ho 60 120 (.invokevirtual 62) 3 66 0 5 := rfl
theorem oq_X5_readText_123 : cw_ho 60 123 (.goto 30) 3 0 0 0 := rfl
theorem oq_X5_readText_126 : cw_ho 60 126 (.aload_n 0) 1 0 0 0 := rfl
theorem oq_X5_readText_127 : cw_ho 60 127 (.invokevirtual 65) 3 67 0 5 := rfl
theorem oq_X5_readText_130 : cw_ho 60 130 (.goto 23) 3 0 0 0 := rfl
theorem oq_X5_readText_133 : cw_ho 60 133 (.aload_n 0) 1 0 0 0 := rfl
theorem oq_X5_readText_134 : cw_ho 60 134 (.invokevirtual 68) 3 71 0 5 := rfl
theorem oq_X5_readText_137 : cw_ho 60 137 (.goto 16) 3 0 0 0 := rfl
theorem oq_X5_readText_140 : cw_ho 60 140 (.aload_n 0) 1 0 0 0 := rfl
theorem oq_X5_readText_141 : cw_ho 60 141 (.invokevirtual 71) 3 74 0 5 := rfl
theorem oq_X5_readText_144 : cw_ho 60 144 (.goto 9) 3 0 0 0 := rfl
theorem oq_X5_readText_147 : cw_ho 60 147 (.aload_n 0) 1 0 0 0 := rfl
theorem oq_X5_readText_148 : cw_ho 60 148 (.iconst 1) 1 0 0 0 := rfl
theorem oq_X5_readText_149 : cw_ho 60 149 (.invokevirtual 74) 3 61 1 5 := rfl
theorem oq_X5_readText_152 : cw_ho 60 152 (.pop) 1 0 0 0 := rfl
theorem oq_X5_readText_153 : cw_ho 60 153 (.aload_n 0) 1 0 0 0 := rfl
theorem oq_X5_readText_154 : cw_ho 60 154 (.invokevirtual 78) 3 62 0 5 := rfl
theorem oq_X5_readText_157 : cw_ho 60 157 (.aload_n 0) 1 0 0 0 := rfl
theorem oq_X5_readText_158 : cw_ho 60 158 (.getfield 46) 3 5 4 0 := rfl
theorem oq_X5_readText_161 : cw_ho 60 161 (.ifCond .eq 5) 3 0 0 0 := rfl
theorem oq_X5_readText_164 : cw_ho 60 164 (.iconst (-1)) 1 0 0 0 := rfl
theorem oq_X5_readText_165 : cw_ho 60 165 (.ireturn) 1 0 0 0 := rfl
theorem oq_X5_readText_166 : cw_ho 60 166 (.iinc 3 1) 3 0 0 0 := rfl
theorem oq_X5_readText_169 : cw_ho 60 169 (.goto (-132)) 3 0 0 0 := rfl
end TZ
end
