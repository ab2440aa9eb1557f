/-! ===== lines on causes, works, the ground: the class ===== -/
theorem zNm_wr {h h' : cv_H} {R : Nat} {l : List Int} {v : cv_V} (w : cw_Wr h h' R l.length v) (hl : zNm h R 0 l) : zNm h' R 0 l := fun k hk => (ri_ne w (.inr (by omega))).trans (hl k hk)
theorem zNm_end {h h' h'' : cv_H} {R : Nat} {l : List Int} {x : Int32} {v : Int} (w : cw_Wr h h' R l.length (cv_i x)) (hl : zNm h R 0 l) (e : ∀ i, ri_at h'' R i = ri_at h' R i) (hx : x.toInt = v) : zNm h'' R 0 (l ++ [v]) := zNm_app (zNm_eq (zNm_wr w hl) e) (by rw [Nat.zero_add, e]; exact (ri_self w).trans hx)
theorem zst_no {α : Type} {z : (Int × Nat) ⊕ (α × Nat)} {e : Int × Nat} {v : α} {q : Nat} (h : zst z = .inl e) (h' : z = .inr (v, q)) : False := by rw [h'] at h; cases h
section TZ
variable {G : Int} {X : cv_X} {Q : cv_O → Prop} {t : Nat → Int}
theorem oq_X5_readCause_0 : cw_ho 74 0 (.aload_n 0) 1 0 0 0 := rfl
theorem oq_X5_readCause_1 : cw_ho 74 1 (.getfield 33) 3 5 2 4 := rfl
theorem oq_X5_readCause_4 : cw_ho 74 4 (.getfield 204) 3 4 19 0 := rfl
theorem oq_X5_readCause_7 : cw_ho 74 7 (.istore_n 1) 1 0 0 0 := rfl
theorem oq_X5_readCause_8 : cw_ho 74 8 (.iload_n 1) 1 0 0 0 := rfl
theorem oq_X5_readCause_9 : cw_ho 74 9 (.ifCond .lt 9) 3 0 0 0 := rfl
theorem oq_X5_readCause_12 : cw_ho 74 12 (.iload_n 1) 1 0 0 0 := rfl
theorem oq_X5_readCause_13 : cw_ho 74 13 (.bipush 6) 2 0 0 0 := rfl
theorem oq_X5_readCause_15 : cw_ho 74 15 (.if_icmp .lt 10) 3 0 0 0 := rfl
theorem oq_X5_readCause_18 : cw_ho 74 18 (.aload_n 0) 1 0 0 0 := rfl
theorem oq_X5_readCause_19 : cw_ho 74 19 (.iconst 2) 1 0 0 0 := rfl
theorem oq_X5_readCause_20 : cw_ho 74 20 (.invokevirtual 74) 3 61 1 5 := rfl
theorem oq_X5_readCause_23 : cw_ho 74 23 (.pop) 1 0 0 0 := rfl
theorem oq_X5_readCause_24 : cw_ho 74 24 (.return_) 1 0 0 0 := rfl
theorem oq_X5_readCause_25 : cw_ho 74 25 (.aload_n 0) 1 0 0 0 := rfl
theorem oq_X5_readCause_26 : cw_ho 74 26 (.getfield 20) 3 5 0 4 := rfl
theorem oq_X5_readCause_29 : cw_ho 74 29 (.invokevirtual 82) 3 78 0 6 := rfl
theorem oq_X5_readCause_32 : cw_ho 74 32 (.aload_n 0) 1 0 0 0 := rfl
theorem oq_X5_readCause_33 : cw_ho 74 33 (.getfield 33) 3 5 2 4 := rfl
theorem oq_X5_readCause_36 : cw_ho 74 36 (.getfield 201) 3 4 15 4 := rfl
theorem oq_X5_readCause_39 : cw_ho 74 39 (.iload_n 1) 1 0 0 0 := rfl
theorem oq_X5_readCause_40 : cw_ho 74 40 (.aload_n 0) 1 0 0 0 := rfl
theorem oq_X5_readCause_41 : cw_ho 74 41 (.aload_n 0) 1 0 0 0 := rfl
theorem oq_X5_readCause_42 : cw_ho 74 42 (.getfield 33) 3 5 2 4 := rfl
theorem oq_X5_readCause_45 : cw_ho 74 45 (.getfield 201) 3 4 15 4 := rfl
theorem oq_X5_readCause_48 : cw_ho 74 48 (.iload_n 1) 1 0 0 0 := rfl
theorem oq_X5_readCause_49 : cw_ho 74 49 (.invokevirtual 134) 3 64 2 5 := rfl
theorem oq_X5_readCause_52 : cw_ho 74 52 (.iastore) 1 0 0 0 := rfl
theorem oq_X5_readCause_53 : cw_ho 74 53 (.aload_n 0) 1 0 0 0 := rfl
theorem oq_X5_readCause_54 : cw_ho 74 54 (.getfield 33) 3 5 2 4 := rfl
theorem oq_X5_readCause_57 : cw_ho 74 57 (.getfield 231) 3 4 16 4 := rfl
theorem oq_X5_readCause_60 : cw_ho 74 60 (.iload_n 1) 1 0 0 0 := rfl
theorem oq_X5_readCause_61 : cw_ho 74 61 (.aload_n 0) 1 0 0 0 := rfl
theorem oq_X5_readCause_62 : cw_ho 74 62 (.iconst 1) 1 0 0 0 := rfl
theorem oq_X5_readCause_63 : cw_ho 74 63 (.bipush 99) 2 0 0 0 := rfl
theorem oq_X5_readCause_65 : cw_ho 74 65 (.invokevirtual 93) 3 63 2 5 := rfl
theorem oq_X5_readCause_68 : cw_ho 74 68 (.iastore) 1 0 0 0 := rfl
theorem oq_X5_readCause_69 : cw_ho 74 69 (.aload_n 0) 1 0 0 0 := rfl
theorem oq_X5_readCause_70 : cw_ho 74 70 (.getfield 46) 3 5 4 0 := rfl
theorem oq_X5_readCause_73 : cw_ho 74 73 (.ifCond .ne 16) 3 0 0 0 := rfl
theorem oq_X5_readCause_76 : cw_ho 74 76 (.aload_n 0) 1 0 0 0 := rfl
theorem oq_X5_readCause_77 : cw_ho 74 77 (.getfield 20) 3 5 0 4 := rfl
theorem oq_X5_readCause_80 : cw_ho 74 80 (.iconst 5) 1 0 0 0 := rfl
theorem oq_X5_readCause_81 : cw_ho 74 81 (.bipush 7) 2 0 0 0 := rfl
theorem oq_X5_readCause_83 : cw_ho 74 83 (.invokevirtual 97) 3 84 2 6 := rfl
theorem oq_X5_readCause_86 : cw_ho 74 86 (.ifCond .ne 10) 3 0 0 0 := rfl
theorem oq_X5_readCause_89 : cw_ho 74 89 (.aload_n 0) 1 0 0 0 := rfl
theorem oq_X5_readCause_90 : cw_ho 74 90 (.iconst 1) 1 0 0 0 := rfl
theorem oq_X5_readCause_91 : cw_ho 74 91 (.invokevirtual 74) 3 61 1 5 := rfl
theorem oq_X5_readCause_94 : cw_ho 74 94 (.pop) 1 0 0 0 := rfl
theorem oq_X5_readCause_95 : cw_ho 74 95 (.return_) 1 0 0 0 := rfl
theorem oq_X5_readCause_96 : cw_ho 74 96 (.aload_n 0) 1 0 0 0 := rfl
theorem oq_X5_readCause_97 : cw_ho 74 97 (.getfield 33) 3 5 2 4 := rfl
theorem oq_X5_readCause_100 : cw_ho 74 100 (.getfield 234) 3 4 17 4 := rfl
theorem oq_X5_readCause_103 : cw_ho 74 103 (.iload_n 1) 1 0 0 0 := rfl
theorem oq_X5_readCause_104 : cw_ho 74 104 (.aload_n 0) 1 0 0 0 := rfl
theorem oq_X5_readCause_105 : cw_ho 74 105 (.getfield 20) 3 5 0 4 := rfl
theorem oq_X5_readCause_108 : cw_ho 74 108 (.getfield 56) 3 6 6 0 := rfl
theorem oq_X5_readCause_111 : cw_ho 74 111 (.iconst 5) 1 0 0 0 := rfl
theorem oq_X5_readCause_112 : cw_ho 74 112 (.isub) 1 0 0 0 := rfl
theorem oq_X5_readCause_113 : cw_ho 74 113 (.iastore) 1 0 0 0 := rfl
theorem oq_X5_readCause_114 : cw_ho 74 114 (.aload_n 0) 1 0 0 0 := rfl
theorem oq_X5_readCause_115 : cw_ho 74 115 (.getfield 20) 3 5 0 4 := rfl
theorem oq_X5_readCause_118 : cw_ho 74 118 (.invokevirtual 82) 3 78 0 6 := rfl
theorem oq_X5_readCause_121 : cw_ho 74 121 (.aload_n 0) 1 0 0 0 := rfl
theorem oq_X5_readCause_122 : cw_ho 74 122 (.getfield 33) 3 5 2 4 := rfl
theorem oq_X5_readCause_125 : cw_ho 74 125 (.getfield 237) 3 4 18 4 := rfl
theorem oq_X5_readCause_128 : cw_ho 74 128 (.iload_n 1) 1 0 0 0 := rfl
theorem oq_X5_readCause_129 : cw_ho 74 129 (.aload_n 0) 1 0 0 0 := rfl
theorem oq_X5_readCause_130 : cw_ho 74 130 (.iconst 1) 1 0 0 0 := rfl
theorem oq_X5_readCause_131 : cw_ho 74 131 (.sipush 999) 3 0 0 0 := rfl
theorem oq_X5_readCause_134 : cw_ho 74 134 (.invokevirtual 93) 3 63 2 5 := rfl
theorem oq_X5_readCause_137 : cw_ho 74 137 (.iastore) 1 0 0 0 := rfl
theorem oq_X5_readCause_138 : cw_ho 74 138 (.aload_n 0) 1 0 0 0 := rfl
theorem oq_X5_readCause_139 : cw_ho 74 139 (.getfield 33) 3 5 2 4 := rfl
theorem oq_X5_readCause_142 : cw_ho 74 142 (.iload_n 1) 1 0 0 0 := rfl
theorem oq_X5_readCause_143 : cw_ho 74 143 (.iconst 1) 1 0 0 0 := rfl
theorem oq_X5_readCause_144 : cw_ho 74 144 (.iadd) 1 0 0 0 := rfl
theorem oq_X5_readCause_145 : cw_ho 74 145 (.putfield 204) 3 4 19 0 := rfl
theorem oq_X5_readCause_148 : cw_ho 74 148 (.return_) 1 0 0 0 := rfl
set_option maxHeartbeats 8000000 in
theorem ct_readCause {h0 : cv_H} {n p : Nat} (ht : ∀ i, t i = ri_at h0 1 i % 256) (hwd : ∀ i, i < 34 → ri_at h0 52 i = tz_wc.getD i 0) (hn9 : n ≤ 900) (hT : cw_T G h0) {b : Nat} (hb : b = 2 ∨ b = 26) (hpl : zPL b h0) (hS : zCs t n (.inr p) h0) {l : List Int} (hc : ri_at h0 b 19 = l.length) (hlm : l.length ≤ 6) (hl : zNm h0 (b + 12) 0 l) (hQ : ∀ h', cw_T G h' → cw_Fr cw_Ds cw_sh kk_X5_readCause.2.2.2.2.2.1 h0 h' → zCs t n (zst (zcl t n l p)) h' ∧ (∀ v q, zcl t n l p = .inr (v, q) → ri_at h' b 19 = l.length + 1 ∧ zNm h' (b + 12) 0 (l ++ [v])) → Q (none, h')) : cw_X X 74 Q 0 (cv_ent 0 [cv_r 50]) [] h0 := by
  have Fh0 : cw_Fr cw_Ds cw_sh kk_X5_readCause.2.2.2.2.2.1 h0 h0 := cw_Fr_refl
  have hA : ∀ h, cw_Fr cw_Ds cw_sh kk_X5_readCause.2.2.2.2.2.1 h0 h → ∀ i, ri_at h 1 i = ri_at h0 1 i := fun h F i => ri_frr F (k := 1) (d := 13) rfl rfl (by decide +kernel)
  have hB : ∀ h, cw_Fr cw_Ds cw_sh kk_X5_readCause.2.2.2.2.2.1 h0 h → ∀ i, ri_at h 52 i = ri_at h0 52 i := fun h F i => ri_frr F (k := 52) (d := 43) rfl rfl (by decide +kernel)
  have hPL : ∀ h, cw_Fr cw_Ds cw_sh kk_X5_readCause.2.2.2.2.2.1 h0 h → zPL b h := fun h F => zPL_fr hb F (by decide +kernel) hpl
  have hb4 : cw_sh[b]? = some 4 := by rcases hb with rfl | rfl <;> rfl
  have hkb1 : cw_sh[b + 1]? = some 28 := by rcases hb with rfl | rfl <;> rfl
  have hkb2 : cw_sh[b + 2]? = some 29 := by rcases hb with rfl | rfl <;> rfl
  have hkb3 : cw_sh[b + 3]? = some 30 := by rcases hb with rfl | rfl <;> rfl
  have hkb4 : cw_sh[b + 4]? = some 31 := by rcases hb with rfl | rfl <;> rfl
  have hkb5 : cw_sh[b + 5]? = some 32 := by rcases hb with rfl | rfl <;> rfl
  have hkb6 : cw_sh[b + 6]? = some 33 := by rcases hb with rfl | rfl <;> rfl
  have hkb7 : cw_sh[b + 7]? = some 34 := by rcases hb with rfl | rfl <;> rfl
  have hkb8 : cw_sh[b + 8]? = some 35 := by rcases hb with rfl | rfl <;> rfl
  have hkb9 : cw_sh[b + 9]? = some 36 := by rcases hb with rfl | rfl <;> rfl
  have hkb10 : cw_sh[b + 10]? = some 37 := by rcases hb with rfl | rfl <;> rfl
  have hkb11 : cw_sh[b + 11]? = some 38 := by rcases hb with rfl | rfl <;> rfl
  have hkb12 : cw_sh[b + 12]? = some 39 := by rcases hb with rfl | rfl <;> rfl
  have hkb13 : cw_sh[b + 13]? = some 40 := by rcases hb with rfl | rfl <;> rfl
  have hkb14 : cw_sh[b + 14]? = some 41 := by rcases hb with rfl | rfl <;> rfl
  have hkb15 : cw_sh[b + 15]? = some 42 := by rcases hb with rfl | rfl <;> rfl
  refine ex_al oq_X5_readCause_0 rfl ?_
  refine ex_gf oq_X5_readCause_1 hT (k := 50) (d := 5) rfl rfl ((hPL _ Fh0).1) ?_
  obtain ⟨x101, ax101, rx101, lx101, ux101⟩ := ri_fld (k := b) (d := 4) (f := 19) hT hb4 rfl rfl
  try dsimp only at lx101 ux101
  refine ex_gf oq_X5_readCause_4 hT (k := b) (d := 4) hb4 rfl ax101 ?_
  have rx101 := (rx101.symm.trans hc : x101.toInt = (l.length : Int))
  refine ex_isA oq_X5_readCause_7 (fun L102 gL102_1 kL102 => ?_)
  have gL102_0 : cv_get L102 0 = some (cv_r 50) := kL102 0 _ (by decide) (fun _ => rfl) rfl
  refine ex_il oq_X5_readCause_8 gL102_1 ?_
  refine ex_if0 oq_X5_readCause_9 (t := 18) rfl rfl (fun (c103 : x101.toInt < 0) => ?_) (fun (c103 : ¬ (x101.toInt < 0)) => ?_)
  · exfalso; omega
  · refine ex_il oq_X5_readCause_12 gL102_1 ?_
    refine ex_bi oq_X5_readCause_13 (m := 6) (by decide) (fun x104 hx104 => ?_)
    refine ex_if oq_X5_readCause_15 (t := 25) rfl rfl (fun (c105 : x101.toInt < x104.toInt) => ?_) (fun (c105 : ¬ (x101.toInt < x104.toInt)) => ?_)
    · refine ex_al oq_X5_readCause_25 gL102_0 ?_
      refine ex_gf oq_X5_readCause_26 hT (k := 50) (d := 5) rfl rfl (ri_ref (k := 50) (k' := 51) (d := 5) (f := 0) hT rfl rfl rfl (by decide) (ri_uniq (by decide +kernel))) ?_
      refine ex_cv oq_X5_readCause_29 (by decide) hT (k := 51) (d := 6) (as := []) (stk := []) rfl rfl rfl rfl rfl rfl ⟨rfl, rfl⟩ (R := fun o => ∃ hb : cv_H, o = (none, hb) ∧ cw_T G hb ∧ cw_Fr cw_Ds cw_sh kk_X6_step.2.2.2.2.2.1 h0 hb ∧ zCs t n (.inr (zx t n p)) hb) (ct_stepC (t := t) (n := n) (p := p) (fun i => by rw [ht, ← hA _ Fh0]) (fun i hi => by rw [hB _ Fh0]; exact hwd i hi) hn9 hT hS (fun hb b1 b2 b3 => ⟨hb, rfl, b1, b2, b3⟩)) (fun o ho => ?_)
      obtain ⟨h106, rfl, Th106, Ch106, Sh106⟩ := ho
      show cw_X _ _ _ _ _ [] h106
      have Fh106 : cw_Fr cw_Ds cw_sh kk_X5_readCause.2.2.2.2.2.1 h0 h106 := cw_Fr_tr Fh0 (cw_Fr_mono (by decide +kernel) Ch106)
      have eh106_b_19 : ri_at h106 b 19 = (l.length : Int) := (ri_frf Ch106 (k := b) (d := 4) hb4 rfl (by decide +kernel)).trans hc
      obtain ⟨pnh106, yah106, ybh106, ych106, ydh106, yfh106⟩ := zCs_at Sh106
      obtain ⟨kch106, ykh106⟩ : ∃ k, ri_at h106 51 4 = k := ⟨_, rfl⟩
      obtain ⟨vch106, yvh106⟩ : ∃ k, ri_at h106 51 6 = k := ⟨_, rfl⟩
      rw [ykh106, yvh106] at ydh106
      replace ydh106 := zhd_i ydh106
      have zlh106 := zx_le (t := t) (n := n) (p := (zx t n p)) (by omega)
      refine ex_al oq_X5_readCause_32 gL102_0 ?_
      refine ex_gf oq_X5_readCause_33 Th106 (k := 50) (d := 5) rfl rfl ((hPL _ Fh106).1) ?_
      refine ex_gf oq_X5_readCause_36 Th106 (k := b) (d := 4) hb4 rfl ((show cw_at h106 b 15 = some (cv_r (b + 12)) from (hPL _ Fh106).2.1 15 (by decide))) ?_
      refine ex_il oq_X5_readCause_39 gL102_1 ?_
      refine ex_al oq_X5_readCause_40 gL102_0 ?_
      refine ex_al oq_X5_readCause_41 gL102_0 ?_
      refine ex_gf oq_X5_readCause_42 Th106 (k := 50) (d := 5) rfl rfl ((hPL _ Fh106).1) ?_
      refine ex_gf oq_X5_readCause_45 Th106 (k := b) (d := 4) hb4 rfl ((show cw_at h106 b 15 = some (cv_r (b + 12)) from (hPL _ Fh106).2.1 15 (by decide))) ?_
      refine ex_il oq_X5_readCause_48 gL102_1 ?_
      have hlh106 : zNm h106 (b + 12) 0 l := zNm_eq hl (fun i => (ri_frr Ch106 (k := (b + 12)) (d := 39) hkb12 rfl (by decide +kernel)))
      refine ex_cv oq_X5_readCause_49 (by decide) Th106 (k := 50) (d := 5) (as := [cv_r (b + 12), cv_i x101]) (stk := [cv_i x101, cv_r (b + 12)]) rfl rfl rfl rfl rfl rfl ⟨rfl, rfl⟩ (R := fun o => ∃ (x : Int32) (hb : cv_H), o = (some (cv_i x), hb) ∧ cw_T G hb ∧ cw_Fr cw_Ds cw_sh kk_X5_readNewName_2.2.2.2.2.2.1 h106 hb ∧ zCr t n hb x (zbd (.inr (zx t n p)) (zm t n l))) (ct_nameSC (t := t) (n := n) (l := l) hb (fun i => by rw [ht, ← hA _ Fh106]) (fun i hi => by rw [hB _ Fh106]; exact hwd i hi) hn9 Th106 (by omega) (by omega) hlh106 Sh106 (fun x hb b1 b2 b3 => ⟨x, hb, rfl, b1, b2, b3⟩)) (fun o ho => ?_)
      obtain ⟨x107, h108, rfl, Th108, Ch108, dx107⟩ := ho
      show cw_X _ _ _ _ _ [cv_i x107, cv_i x101, cv_r (b + 12)] h108
      obtain ⟨z1, y1, wx107, Sh108⟩ : ∃ z, (zm t n l) (zx t n p) = z ∧ x107.toInt = zvl z ∧ zCs t n (zst z) h108 := ⟨_, rfl, zCr_i dx107⟩
      clear dx107
      have Fh108 : cw_Fr cw_Ds cw_sh kk_X5_readCause.2.2.2.2.2.1 h0 h108 := cw_Fr_tr Fh106 (cw_Fr_mono (by decide +kernel) Ch108)
      have eh108_b_19 : ri_at h108 b 19 = (l.length : Int) := (ri_frf Ch108 (k := b) (d := 4) hb4 rfl (by decide +kernel)).trans eh106_b_19
      clear eh106_b_19
      refine ex_iw1 oq_X5_readCause_52 Th108 (k := (b + 12)) (d := 39) (j := l.length) hkb12 rfl (by omega) (by omega) ⟨(cw_i32 _).1, (cw_i32 _).2⟩ (fun h109 Th109 wh109 => ?_)
      have Fh109 : cw_Fr cw_Ds cw_sh kk_X5_readCause.2.2.2.2.2.1 h0 h109 := cw_Fr_tr Fh108 (cw_Fr_wrr wh109 (k := (b + 12)) (d := 39) hkb12 rfl (by decide +kernel))
      have eh109_b_19 : ri_at h109 b 19 = (l.length : Int) := (ri_ne wh109 (.inl (cw_kne (k := b) (d := 4) (k' := (b + 12)) (d' := 39) hb4 hkb12 (by decide)))).trans eh108_b_19
      clear eh108_b_19
      have Sh109 := zCs_wr (d := 39) (k := (b + 12)) wh109 hkb12 Sh108 (.inl ⟨by decide, by decide⟩)
      refine ex_al oq_X5_readCause_53 gL102_0 ?_
      refine ex_gf oq_X5_readCause_54 Th109 (k := 50) (d := 5) rfl rfl ((hPL _ Fh109).1) ?_
      refine ex_gf oq_X5_readCause_57 Th109 (k := b) (d := 4) hb4 rfl ((show cw_at h109 b 16 = some (cv_r (b + 13)) from (hPL _ Fh109).2.1 16 (by decide))) ?_
      refine ex_il oq_X5_readCause_60 gL102_1 ?_
      refine ex_al oq_X5_readCause_61 gL102_0 ?_
      refine ex_ic oq_X5_readCause_62 (m := 1) (by decide) (fun x110 hx110 => ?_)
      refine ex_bi oq_X5_readCause_63 (m := 99) (by decide) (fun x111 hx111 => ?_)
      refine ex_cv oq_X5_readCause_65 (by decide) Th109 (k := 50) (d := 5) (as := [cv_i x110, cv_i x111]) (stk := [cv_i x101, cv_r (b + 13)]) rfl rfl rfl rfl rfl rfl ⟨rfl, rfl⟩ (R := fun o => ∃ (x : Int32) (hb : cv_H), o = (some (cv_i x), hb) ∧ cw_T G hb ∧ cw_Fr cw_Ds cw_sh kk_X5_readNumber_1.2.2.2.2.2.1 h109 hb ∧ zCr t n hb x (zbd (zst z1) (zn t n x110.toInt x111.toInt))) (ct_readNumber (t := t) (n := n) (fun i => by rw [ht, ← hA _ Fh109]) (fun i hi => by rw [hB _ Fh109]; exact hwd i hi) hn9 Th109 Sh109 x110 x111 (by omega) (by omega) (fun x hb b1 b2 b3 => ⟨x, hb, rfl, b1, b2, b3⟩)) (fun o ho => ?_)
      obtain ⟨x112, h113, rfl, Th113, Ch113, dx112⟩ := ho
      show cw_X _ _ _ _ _ [cv_i x112, cv_i x101, cv_r (b + 13)] h113
      obtain ⟨z2, y2, wx112, Sh113⟩ : ∃ z, zbd (zst z1) (zn t n x110.toInt x111.toInt) = z ∧ x112.toInt = zvl z ∧ zCs t n (zst z) h113 := ⟨_, rfl, zCr_i dx112⟩
      clear dx112
      have Fh113 : cw_Fr cw_Ds cw_sh kk_X5_readCause.2.2.2.2.2.1 h0 h113 := cw_Fr_tr Fh109 (cw_Fr_mono (by decide +kernel) Ch113)
      have eh113_b_19 : ri_at h113 b 19 = (l.length : Int) := (ri_frf Ch113 (k := b) (d := 4) hb4 rfl (by decide +kernel)).trans eh109_b_19
      clear eh109_b_19
      have n2 := zvl_n y2
      rw [hx110] at y2 n2
      rw [hx111] at y2 n2
      refine ex_iw1 oq_X5_readCause_68 Th113 (k := (b + 13)) (d := 40) (j := l.length) hkb13 rfl (by omega) (by omega) ⟨(cw_i32 _).1, (cw_i32 _).2⟩ (fun h114 Th114 wh114 => ?_)
      have Fh114 : cw_Fr cw_Ds cw_sh kk_X5_readCause.2.2.2.2.2.1 h0 h114 := cw_Fr_tr Fh113 (cw_Fr_wrr wh114 (k := (b + 13)) (d := 40) hkb13 rfl (by decide +kernel))
      have eh114_b_19 : ri_at h114 b 19 = (l.length : Int) := (ri_ne wh114 (.inl (cw_kne (k := b) (d := 4) (k' := (b + 13)) (d' := 40) hb4 hkb13 (by decide)))).trans eh113_b_19
      clear eh113_b_19
      have Sh114 := zCs_wr (d := 40) (k := (b + 13)) wh114 hkb13 Sh113 (.inl ⟨by decide, by decide⟩)
      refine ex_al oq_X5_readCause_69 gL102_0 ?_
      obtain ⟨x115, ax115, rx115, lx115, ux115⟩ := ri_fld (k := 50) (d := 5) (f := 4) Th114 rfl rfl rfl
      try dsimp only at lx115 ux115
      refine ex_gf oq_X5_readCause_70 Th114 (k := 50) (d := 5) rfl rfl ax115 ?_
      clear lx115 ux115
      refine ex_if0 oq_X5_readCause_73 (t := 89) rfl rfl (fun (c116 : ¬ x115.toInt = 0) => ?_) (fun (c116 : ¬ (¬ x115.toInt = 0)) => ?_)
      · obtain ⟨eb, gb⟩ := zCs_bad Sh114 (fun q => c116 (by omega))
        rw [gb] at Sh114
        refine ex_al oq_X5_readCause_89 gL102_0 ?_
        refine ex_ic oq_X5_readCause_90 (m := 1) (by decide) (fun x117 hx117 => ?_)
        refine ex_cv oq_X5_readCause_91 (by decide) Th114 (k := 50) (d := 5) (as := [cv_i x117]) (stk := []) rfl rfl rfl rfl rfl rfl ⟨rfl, rfl⟩ (R := fun o => ∃ (x : Int32) (hb : cv_H), o = (some (cv_i x), hb) ∧ cw_T G hb ∧ cw_Fr cw_Ds cw_sh kk_X5_fail.2.2.2.2.2.1 h114 hb ∧ x.toInt = 0 ∧ zCs t n (.inl eb) hb) (ct_failB (t := t) (n := n) Th114 Sh114 x117 (fun x hb b1 b2 b3 b4 => ⟨x, hb, rfl, b1, b2, b3, b4⟩)) (fun o ho => ?_)
        obtain ⟨x118, h119, rfl, Th119, Ch119, zh119, Sh119⟩ := ho
        show cw_X _ _ _ _ _ [cv_i x118] h119
        have Fh119 : cw_Fr cw_Ds cw_sh kk_X5_readCause.2.2.2.2.2.1 h0 h119 := cw_Fr_tr Fh114 (cw_Fr_mono (by decide +kernel) Ch119)
        have eh119_b_19 : ri_at h119 b 19 = (l.length : Int) := (ri_frf Ch119 (k := b) (d := 4) hb4 rfl (by decide +kernel)).trans eh114_b_19
        clear eh114_b_19
        refine ex_pop oq_X5_readCause_94 rfl ?_
        have fin : zst (zcl t n l p) = (.inl eb) ∧ ∀ v q, zcl t n l p = .inr (v, q) → True := by
          unfold zcl
          rw [if_neg (by omega)]
          rw [y1]
          rcases z1 with e1 | ⟨v1, q1⟩
          · subst y2; cases gb; exact ⟨rfl, fun v q h => by first | (cases h; done) | trivial⟩
          · rw [zb2_r rfl]
            replace y2 := zbd_s y2
            rw [y2]
            rcases z2 with e2 | ⟨v2, q2⟩
            · cases gb; exact ⟨rfl, fun v q h => by first | (cases h; done) | trivial⟩
            · rw [zb2_r rfl]
              cases gb
        exact ex_retv oq_X5_readCause_95 rfl (hQ h119 Th119 Fh119 ⟨by rw [fin.1]; exact Sh119, fun v q h => (zst_no fin.1 h).elim⟩)
      · replace c116 : x115.toInt = 0 := by omega
        obtain ⟨q2, g2⟩ := zCs_good Sh114 (by omega)
        obtain ⟨v2, u2⟩ := zst_r g2
        rw [g2] at Sh114
        rw [u2] at y2
        obtain ⟨q1, g1, yy2⟩ := zbd_r y2
        clear y2
        have y2 := yy2
        clear yy2
        obtain ⟨v1, u1⟩ := zst_r g1
        rw [u1] at y1
        subst u1
        subst u2
        clear yah106 ybh106 ych106 ykh106 yvh106 yfh106
        obtain ⟨pnh114, yah114, ybh114, ych114, ydh114, yfh114⟩ := zCs_at Sh114
        obtain ⟨kch114, ykh114⟩ : ∃ k, ri_at h114 51 4 = k := ⟨_, rfl⟩
        obtain ⟨vch114, yvh114⟩ : ∃ k, ri_at h114 51 6 = k := ⟨_, rfl⟩
        rw [ykh114, yvh114] at ydh114
        replace ydh114 := zhd_i ydh114
        have zlh114 := zx_le (t := t) (n := n) (p := q2) (by omega)
        have rl120 := rl_pw (show tz_rel _ _ _ _ from ydh114)
        refine ex_al oq_X5_readCause_76 gL102_0 ?_
        refine ex_gf oq_X5_readCause_77 Th114 (k := 50) (d := 5) rfl rfl (ri_ref (k := 50) (k' := 51) (d := 5) (f := 0) Th114 rfl rfl rfl (by decide) (ri_uniq (by decide +kernel))) ?_
        refine ex_ic oq_X5_readCause_80 (m := 5) (by decide) (fun x121 hx121 => ?_)
        refine ex_bi oq_X5_readCause_81 (m := 7) (by decide) (fun x122 hx122 => ?_)
        refine ex_cv oq_X5_readCause_83 (by decide) Th114 (k := 51) (d := 6) (as := [cv_i x121, cv_i x122]) (stk := []) rfl rfl rfl rfl rfl rfl ⟨rfl, rfl⟩ (R := fun o => ∃ x : Int32, o = (some (cv_i x), h114) ∧ (x.toInt = 1 ∧ (kch114 = 2 ∧ x121.toInt ≤ vch114 ∧ vch114 ≤ x122.toInt) ∨ x.toInt = 0 ∧ ¬ (kch114 = 2 ∧ x121.toInt ≤ vch114 ∧ vch114 ≤ x122.toInt))) (ct_isWordFrom Th114 x121 x122 ykh114 yvh114 (fun x q => ⟨x, rfl, q⟩)) (fun o ho => ?_)
        obtain ⟨x123, rfl, dx123⟩ := ho
        show cw_X _ _ _ _ _ [cv_i x123] h114
        rw [hx121] at dx123
        rw [hx122] at dx123
        refine ex_if0 oq_X5_readCause_86 (t := 96) rfl rfl (fun (c124 : ¬ x123.toInt = 0) => ?_) (fun (c124 : ¬ (¬ x123.toInt = 0)) => ?_)
        · replace dx123 := bit_y dx123 c124
          refine ex_al oq_X5_readCause_96 gL102_0 ?_
          refine ex_gf oq_X5_readCause_97 Th114 (k := 50) (d := 5) rfl rfl ((hPL _ Fh114).1) ?_
          refine ex_gf oq_X5_readCause_100 Th114 (k := b) (d := 4) hb4 rfl ((show cw_at h114 b 17 = some (cv_r (b + 14)) from (hPL _ Fh114).2.1 17 (by decide))) ?_
          refine ex_il oq_X5_readCause_103 gL102_1 ?_
          refine ex_al oq_X5_readCause_104 gL102_0 ?_
          refine ex_gf oq_X5_readCause_105 Th114 (k := 50) (d := 5) rfl rfl (ri_ref (k := 50) (k' := 51) (d := 5) (f := 0) Th114 rfl rfl rfl (by decide) (ri_uniq (by decide +kernel))) ?_
          obtain ⟨x125, ax125, rx125, lx125, ux125⟩ := ri_fld (k := 51) (d := 6) (f := 6) Th114 rfl rfl rfl
          try dsimp only at lx125 ux125
          refine ex_gf oq_X5_readCause_108 Th114 (k := 51) (d := 6) rfl rfl ax125 ?_
          clear lx125 ux125
          have rx125 := (rx125.symm.trans yvh114 : x125.toInt = vch114)
          refine ex_ic oq_X5_readCause_111 (m := 5) (by decide) (fun x126 hx126 => ?_)
          refine ex_sub oq_X5_readCause_112 (by omega) (fun x127 hx127 => ?_)
          refine ex_iw1 oq_X5_readCause_113 Th114 (k := (b + 14)) (d := 41) (j := l.length) hkb14 rfl (by omega) (by omega) ⟨(cw_i32 _).1, (cw_i32 _).2⟩ (fun h128 Th128 wh128 => ?_)
          have Fh128 : cw_Fr cw_Ds cw_sh kk_X5_readCause.2.2.2.2.2.1 h0 h128 := cw_Fr_tr Fh114 (cw_Fr_wrr wh128 (k := (b + 14)) (d := 41) hkb14 rfl (by decide +kernel))
          have eh128_b_19 : ri_at h128 b 19 = (l.length : Int) := (ri_ne wh128 (.inl (cw_kne (k := b) (d := 4) (k' := (b + 14)) (d' := 41) hb4 hkb14 (by decide)))).trans eh114_b_19
          clear eh114_b_19
          have Sh128 := zCs_wr (d := 41) (k := (b + 14)) wh128 hkb14 Sh114 (.inl ⟨by decide, by decide⟩)
          refine ex_al oq_X5_readCause_114 gL102_0 ?_
          refine ex_gf oq_X5_readCause_115 Th128 (k := 50) (d := 5) rfl rfl (ri_ref (k := 50) (k' := 51) (d := 5) (f := 0) Th128 rfl rfl rfl (by decide) (ri_uniq (by decide +kernel))) ?_
          refine ex_cv oq_X5_readCause_118 (by decide) Th128 (k := 51) (d := 6) (as := []) (stk := []) rfl rfl rfl rfl rfl rfl ⟨rfl, rfl⟩ (R := fun o => ∃ hb : cv_H, o = (none, hb) ∧ cw_T G hb ∧ cw_Fr cw_Ds cw_sh kk_X6_step.2.2.2.2.2.1 h128 hb ∧ zCs t n (.inr (zx t n q2)) hb) (ct_stepC (t := t) (n := n) (p := q2) (fun i => by rw [ht, ← hA _ Fh128]) (fun i hi => by rw [hB _ Fh128]; exact hwd i hi) hn9 Th128 Sh128 (fun hb b1 b2 b3 => ⟨hb, rfl, b1, b2, b3⟩)) (fun o ho => ?_)
          obtain ⟨h129, rfl, Th129, Ch129, Sh129⟩ := ho
          show cw_X _ _ _ _ _ [] h129
          have Fh129 : cw_Fr cw_Ds cw_sh kk_X5_readCause.2.2.2.2.2.1 h0 h129 := cw_Fr_tr Fh128 (cw_Fr_mono (by decide +kernel) Ch129)
          have eh129_b_19 : ri_at h129 b 19 = (l.length : Int) := (ri_frf Ch129 (k := b) (d := 4) hb4 rfl (by decide +kernel)).trans eh128_b_19
          clear eh128_b_19
          clear yah114 ybh114 ych114 ykh114 yvh114 yfh114
          obtain ⟨pnh129, yah129, ybh129, ych129, ydh129, yfh129⟩ := zCs_at Sh129
          obtain ⟨kch129, ykh129⟩ : ∃ k, ri_at h129 51 4 = k := ⟨_, rfl⟩
          obtain ⟨vch129, yvh129⟩ : ∃ k, ri_at h129 51 6 = k := ⟨_, rfl⟩
          rw [ykh129, yvh129] at ydh129
          replace ydh129 := zhd_i ydh129
          have zlh129 := zx_le (t := t) (n := n) (p := (zx t n q2)) (by omega)
          refine ex_al oq_X5_readCause_121 gL102_0 ?_
          refine ex_gf oq_X5_readCause_122 Th129 (k := 50) (d := 5) rfl rfl ((hPL _ Fh129).1) ?_
          refine ex_gf oq_X5_readCause_125 Th129 (k := b) (d := 4) hb4 rfl ((show cw_at h129 b 18 = some (cv_r (b + 15)) from (hPL _ Fh129).2.1 18 (by decide))) ?_
          refine ex_il oq_X5_readCause_128 gL102_1 ?_
          refine ex_al oq_X5_readCause_129 gL102_0 ?_
          refine ex_ic oq_X5_readCause_130 (m := 1) (by decide) (fun x130 hx130 => ?_)
          refine ex_si oq_X5_readCause_131 (m := 999) (by decide) (fun x131 hx131 => ?_)
          refine ex_cv oq_X5_readCause_134 (by decide) Th129 (k := 50) (d := 5) (as := [cv_i x130, cv_i x131]) (stk := [cv_i x101, cv_r (b + 15)]) rfl rfl rfl rfl rfl rfl ⟨rfl, rfl⟩ (R := fun o => ∃ (x : Int32) (hb : cv_H), o = (some (cv_i x), hb) ∧ cw_T G hb ∧ cw_Fr cw_Ds cw_sh kk_X5_readNumber_1.2.2.2.2.2.1 h129 hb ∧ zCr t n hb x (zbd (.inr (zx t n q2)) (zn t n x130.toInt x131.toInt))) (ct_readNumber (t := t) (n := n) (fun i => by rw [ht, ← hA _ Fh129]) (fun i hi => by rw [hB _ Fh129]; exact hwd i hi) hn9 Th129 Sh129 x130 x131 (by omega) (by omega) (fun x hb b1 b2 b3 => ⟨x, hb, rfl, b1, b2, b3⟩)) (fun o ho => ?_)
          obtain ⟨x132, h133, rfl, Th133, Ch133, dx132⟩ := ho
          show cw_X _ _ _ _ _ [cv_i x132, cv_i x101, cv_r (b + 15)] h133
          obtain ⟨z3, y3, wx132, Sh133⟩ : ∃ z, (zn t n x130.toInt x131.toInt) (zx t n q2) = z ∧ x132.toInt = zvl z ∧ zCs t n (zst z) h133 := ⟨_, rfl, zCr_i dx132⟩
          clear dx132
          have Fh133 : cw_Fr cw_Ds cw_sh kk_X5_readCause.2.2.2.2.2.1 h0 h133 := cw_Fr_tr Fh129 (cw_Fr_mono (by decide +kernel) Ch133)
          have eh133_b_19 : ri_at h133 b 19 = (l.length : Int) := (ri_frf Ch133 (k := b) (d := 4) hb4 rfl (by decide +kernel)).trans eh129_b_19
          clear eh129_b_19
          have n3 := zvl_m y3
          rw [hx130] at y3 n3
          rw [hx131] at y3 n3
          refine ex_iw1 oq_X5_readCause_137 Th133 (k := (b + 15)) (d := 42) (j := l.length) hkb15 rfl (by omega) (by omega) ⟨(cw_i32 _).1, (cw_i32 _).2⟩ (fun h134 Th134 wh134 => ?_)
          have Fh134 : cw_Fr cw_Ds cw_sh kk_X5_readCause.2.2.2.2.2.1 h0 h134 := cw_Fr_tr Fh133 (cw_Fr_wrr wh134 (k := (b + 15)) (d := 42) hkb15 rfl (by decide +kernel))
          have eh134_b_19 : ri_at h134 b 19 = (l.length : Int) := (ri_ne wh134 (.inl (cw_kne (k := b) (d := 4) (k' := (b + 15)) (d' := 42) hb4 hkb15 (by decide)))).trans eh133_b_19
          clear eh133_b_19
          have Sh134 := zCs_wr (d := 42) (k := (b + 15)) wh134 hkb15 Sh133 (.inl ⟨by decide, by decide⟩)
          refine ex_al oq_X5_readCause_138 gL102_0 ?_
          refine ex_gf oq_X5_readCause_139 Th134 (k := 50) (d := 5) rfl rfl ((hPL _ Fh134).1) ?_
          refine ex_il oq_X5_readCause_142 gL102_1 ?_
          refine ex_ic oq_X5_readCause_143 (m := 1) (by decide) (fun x135 hx135 => ?_)
          refine ex_add oq_X5_readCause_144 (by omega) (fun x136 hx136 => ?_)
          refine ex_pfi oq_X5_readCause_145 Th134 (k := b) (d := 4) hb4 rfl rfl (by omega) (by omega) (fun h137 Th137 wh137 => ?_)
          have Fh137 : cw_Fr cw_Ds cw_sh kk_X5_readCause.2.2.2.2.2.1 h0 h137 := cw_Fr_tr Fh134 (cw_Fr_wrf wh137 (k := b) (d := 4) hb4 rfl (by decide +kernel))
          have eh137_b_19 : ri_at h137 b 19 = x136.toInt := ri_self wh137
          have Sh137 := zCs_wr (d := 4) (k := b) wh137 hb4 Sh134 (.inl ⟨by decide, by decide⟩)
          have fin : zst (zcl t n l p) = (zst z3) ∧ ∀ v q, zcl t n l p = .inr (v, q) → v = v1 := by
            unfold zcl
            rw [if_neg (by omega), zb2_r y1, zb2_r y2, if_pos (by omega)]
            rw [y3]
            rcases z3 with e3 | ⟨v3, q3⟩
            · exact ⟨rfl, fun v q h => by first | (cases h; done) | trivial⟩
            · rw [zb2_r rfl]
              exact ⟨rfl, fun v q h => by first | (cases h; done) | (cases h; rfl) | trivial⟩
          exact ex_retv oq_X5_readCause_148 rfl (hQ h137 Th137 Fh137 ⟨by rw [fin.1]; exact Sh137, fun v q h => ⟨by omega, by rw [fin.2 v q h]; exact zNm_end wh109 (zNm_eq hl (fun i => ((ri_frr Ch108 (k := (b + 12)) (d := 39) hkb12 rfl (by decide +kernel)).trans (ri_frr Ch106 (k := (b + 12)) (d := 39) hkb12 rfl (by decide +kernel))))) (fun i => ((ri_ne wh137 (.inl (cw_kne (k := (b + 12)) (d := 39) (k' := b) (d' := 4) hkb12 hb4 (by decide)))).trans ((ri_ne wh134 (.inl (cw_kne (k := (b + 12)) (d := 39) (k' := (b + 15)) (d' := 42) hkb12 hkb15 (by decide)))).trans ((ri_frr Ch133 (k := (b + 12)) (d := 39) hkb12 rfl (by decide +kernel)).trans ((ri_frr Ch129 (k := (b + 12)) (d := 39) hkb12 rfl (by decide +kernel)).trans ((ri_ne wh128 (.inl (cw_kne (k := (b + 12)) (d := 39) (k' := (b + 14)) (d' := 41) hkb12 hkb14 (by decide)))).trans ((ri_ne wh114 (.inl (cw_kne (k := (b + 12)) (d := 39) (k' := (b + 13)) (d' := 40) hkb12 hkb13 (by decide)))).trans (ri_frr Ch113 (k := (b + 12)) (d := 39) hkb12 rfl (by decide +kernel))))))))) (wx107)⟩⟩)
        · replace c124 : x123.toInt = 0 := by omega
          replace dx123 := bit_n dx123 c124
          refine ex_al oq_X5_readCause_89 gL102_0 ?_
          refine ex_ic oq_X5_readCause_90 (m := 1) (by decide) (fun x138 hx138 => ?_)
          refine ex_cv oq_X5_readCause_91 (by decide) Th114 (k := 50) (d := 5) (as := [cv_i x138]) (stk := []) rfl rfl rfl rfl rfl rfl ⟨rfl, rfl⟩ (R := fun o => ∃ (x : Int32) (hb : cv_H), o = (some (cv_i x), hb) ∧ cw_T G hb ∧ cw_Fr cw_Ds cw_sh kk_X5_fail.2.2.2.2.2.1 h114 hb ∧ x.toInt = 0 ∧ zCs t n (.inl (1, za t n q2)) hb) (ct_failP (t := t) (n := n) (p := q2) Th114 Sh114 x138 hx138 (by decide) (fun x hb b1 b2 b3 b4 => ⟨x, hb, rfl, b1, b2, b3, b4⟩)) (fun o ho => ?_)
          obtain ⟨x139, h140, rfl, Th140, Ch140, zh140, Sh140⟩ := ho
          show cw_X _ _ _ _ _ [cv_i x139] h140
          have Fh140 : cw_Fr cw_Ds cw_sh kk_X5_readCause.2.2.2.2.2.1 h0 h140 := cw_Fr_tr Fh114 (cw_Fr_mono (by decide +kernel) Ch140)
          have eh140_b_19 : ri_at h140 b 19 = (l.length : Int) := (ri_frf Ch140 (k := b) (d := 4) hb4 rfl (by decide +kernel)).trans eh114_b_19
          clear eh114_b_19
          refine ex_pop oq_X5_readCause_94 rfl ?_
          have fin : zst (zcl t n l p) = (.inl (1, za t n q2)) ∧ ∀ v q, zcl t n l p = .inr (v, q) → True := by
            unfold zcl
            rw [if_neg (by omega), zb2_r y1, zb2_r y2, if_neg (by omega)]
            exact ⟨rfl, fun v q h => by first | (cases h; done) | (cases h; rfl) | trivial⟩
          exact ex_retv oq_X5_readCause_95 rfl (hQ h140 Th140 Fh140 ⟨by rw [fin.1]; exact Sh140, fun v q h => (zst_no fin.1 h).elim⟩)
    · refine ex_al oq_X5_readCause_18 gL102_0 ?_
      refine ex_ic oq_X5_readCause_19 (m := 2) (by decide) (fun x141 hx141 => ?_)
      refine ex_cv oq_X5_readCause_20 (by decide) hT (k := 50) (d := 5) (as := [cv_i x141]) (stk := []) rfl rfl rfl rfl rfl rfl ⟨rfl, rfl⟩ (R := fun o => ∃ (x : Int32) (hb : cv_H), o = (some (cv_i x), hb) ∧ cw_T G hb ∧ cw_Fr cw_Ds cw_sh kk_X5_fail.2.2.2.2.2.1 h0 hb ∧ x.toInt = 0 ∧ zCs t n (.inl (2, za t n p)) hb) (ct_failP (t := t) (n := n) (p := p) hT hS x141 hx141 (by decide) (fun x hb b1 b2 b3 b4 => ⟨x, hb, rfl, b1, b2, b3, b4⟩)) (fun o ho => ?_)
      obtain ⟨x142, h143, rfl, Th143, Ch143, zh143, Sh143⟩ := ho
      show cw_X _ _ _ _ _ [cv_i x142] h143
      have Fh143 : cw_Fr cw_Ds cw_sh kk_X5_readCause.2.2.2.2.2.1 h0 h143 := cw_Fr_tr Fh0 (cw_Fr_mono (by decide +kernel) Ch143)
      have eh143_b_19 : ri_at h143 b 19 = (l.length : Int) := (ri_frf Ch143 (k := b) (d := 4) hb4 rfl (by decide +kernel)).trans hc
      refine ex_pop oq_X5_readCause_23 rfl ?_
      have fin : zst (zcl t n l p) = (.inl (2, za t n p)) ∧ ∀ v q, zcl t n l p = .inr (v, q) → True := by
        unfold zcl
        rw [if_pos (by omega)]
        exact ⟨rfl, fun v q h => by first | (cases h; done) | (cases h; rfl) | trivial⟩
      exact ex_retv oq_X5_readCause_24 rfl (hQ h143 Th143 Fh143 ⟨by rw [fin.1]; exact Sh143, fun v q h => (zst_no fin.1 h).elim⟩)
theorem zkc_e {k w kc vc : Int} (h : tz_rel k w kc vc) (h2 : kc = 2) : zkc vc = zwk k w := by
  obtain ⟨r1, r2⟩ := rl_pw h
  have := r2 h2
  unfold zkc zwk
  rw [if_pos (r1.mpr h2)]
  (repeat' split) <;> omega
theorem zkc_n {k w kc vc : Int} (h : tz_rel k w kc vc) (h2 : ¬ kc = 2) : zwk k w = -1 := by
  obtain ⟨r1, r2⟩ := rl_pw h
  unfold zwk
  rw [if_neg (fun q => h2 (r1.mp q))]
theorem zmc_b {k : Int} : (k ≤ 1 → zmc k = -1) ∧ (1 < k → k ≤ 6 → zmc k = zmo k ∧ 0 ≤ zmc k ∧ zmc k ≤ 9999) := by
  unfold zmc zmo
  refine ⟨fun q => ?_, fun q q' => ?_⟩ <;> (repeat' split) <;> omega
theorem oq_X5_readWork_0 : cw_ho 71 0 (.aload_n 0) 1 0 0 0 := rfl
theorem oq_X5_readWork_1 : cw_ho 71 1 (.getfield 33) 3 5 2 4 := rfl
theorem oq_X5_readWork_4 : cw_ho 71 4 (.getfield 210) 3 4 14 0 := rfl
theorem oq_X5_readWork_7 : cw_ho 71 7 (.istore_n 1) 1 0 0 0 := rfl
theorem oq_X5_readWork_8 : cw_ho 71 8 (.iload_n 1) 1 0 0 0 := rfl
theorem oq_X5_readWork_9 : cw_ho 71 9 (.ifCond .lt 9) 3 0 0 0 := rfl
theorem oq_X5_readWork_12 : cw_ho 71 12 (.iload_n 1) 1 0 0 0 := rfl
theorem oq_X5_readWork_13 : cw_ho 71 13 (.bipush 6) 2 0 0 0 := rfl
theorem oq_X5_readWork_15 : cw_ho 71 15 (.if_icmp .lt 10) 3 0 0 0 := rfl
theorem oq_X5_readWork_18 : cw_ho 71 18 (.aload_n 0) 1 0 0 0 := rfl
theorem oq_X5_readWork_19 : cw_ho 71 19 (.iconst 2) 1 0 0 0 := rfl
theorem oq_X5_readWork_20 : cw_ho 71 20 (.invokevirtual 74) 3 61 1 5 := rfl
theorem oq_X5_readWork_23 : cw_ho 71 23 (.pop) 1 0 0 0 := rfl
theorem oq_X5_readWork_24 : cw_ho 71 24 (.return_) 1 0 0 0 := rfl
theorem oq_X5_readWork_25 : cw_ho 71 25 (.aload_n 0) 1 0 0 0 := rfl
theorem oq_X5_readWork_26 : cw_ho 71 26 (.getfield 20) 3 5 0 4 := rfl
theorem oq_X5_readWork_29 : cw_ho 71 29 (.invokevirtual 82) 3 78 0 6 := rfl
theorem oq_X5_readWork_32 : cw_ho 71 32 (.aload_n 0) 1 0 0 0 := rfl
theorem oq_X5_readWork_33 : cw_ho 71 33 (.getfield 33) 3 5 2 4 := rfl
theorem oq_X5_readWork_36 : cw_ho 71 36 (.getfield 213) 3 4 10 4 := rfl
theorem oq_X5_readWork_39 : cw_ho 71 39 (.iload_n 1) 1 0 0 0 := rfl
theorem oq_X5_readWork_40 : cw_ho 71 40 (.aload_n 0) 1 0 0 0 := rfl
theorem oq_X5_readWork_41 : cw_ho 71 41 (.aload_n 0) 1 0 0 0 := rfl
theorem oq_X5_readWork_42 : cw_ho 71 42 (.getfield 33) 3 5 2 4 := rfl
theorem oq_X5_readWork_45 : cw_ho 71 45 (.getfield 213) 3 4 10 4 := rfl
theorem oq_X5_readWork_48 : cw_ho 71 48 (.iload_n 1) 1 0 0 0 := rfl
theorem oq_X5_readWork_49 : cw_ho 71 49 (.invokevirtual 134) 3 64 2 5 := rfl
theorem oq_X5_readWork_52 : cw_ho 71 52 (.iastore) 1 0 0 0 := rfl
theorem oq_X5_readWork_53 : cw_ho 71 53 (.aload_n 0) 1 0 0 0 := rfl
theorem oq_X5_readWork_54 : cw_ho 71 54 (.getfield 33) 3 5 2 4 := rfl
theorem oq_X5_readWork_57 : cw_ho 71 57 (.getfield 216) 3 4 11 4 := rfl
theorem oq_X5_readWork_60 : cw_ho 71 60 (.iload_n 1) 1 0 0 0 := rfl
theorem oq_X5_readWork_61 : cw_ho 71 61 (.aload_n 0) 1 0 0 0 := rfl
theorem oq_X5_readWork_62 : cw_ho 71 62 (.iconst 1) 1 0 0 0 := rfl
theorem oq_X5_readWork_63 : cw_ho 71 63 (.sipush 999) 3 0 0 0 := rfl
theorem oq_X5_readWork_66 : cw_ho 71 66 (.invokevirtual 93) 3 63 2 5 := rfl
theorem oq_X5_readWork_69 : cw_ho 71 69 (.iastore) 1 0 0 0 := rfl
theorem oq_X5_readWork_70 : cw_ho 71 70 (.aload_n 0) 1 0 0 0 := rfl
theorem oq_X5_readWork_71 : cw_ho 71 71 (.getfield 46) 3 5 4 0 := rfl
theorem oq_X5_readWork_74 : cw_ho 71 74 (.ifCond .ne 27) 3 0 0 0 := rfl
theorem oq_X5_readWork_77 : cw_ho 71 77 (.aload_n 0) 1 0 0 0 := rfl
theorem oq_X5_readWork_78 : cw_ho 71 78 (.getfield 20) 3 5 0 4 := rfl
theorem oq_X5_readWork_81 : cw_ho 71 81 (.getfield 53) 3 6 4 0 := rfl
theorem oq_X5_readWork_84 : cw_ho 71 84 (.iconst 2) 1 0 0 0 := rfl
theorem oq_X5_readWork_85 : cw_ho 71 85 (.if_icmp .ne 16) 3 0 0 0 := rfl
theorem oq_X5_readWork_88 : cw_ho 71 88 (.aload_n 0) 1 0 0 0 := rfl
theorem oq_X5_readWork_89 : cw_ho 71 89 (.getfield 20) 3 5 0 4 := rfl
theorem oq_X5_readWork_92 : cw_ho 71 92 (.getfield 56) 3 6 6 0 := rfl
theorem oq_X5_readWork_95 : cw_ho 71 95 (.invokestatic 219) 3 72 1 0 := rfl
theorem oq_X5_readWork_98 : cw_ho 71 98 (.goto 4) 3 0 0 0 := rfl
theorem oq_X5_readWork_101 : cw_ho 71 101 (.iconst (-1)) 1 0 0 0 := rfl
theorem oq_X5_readWork_102 : cw_ho 71 102 (.istore_n 2) 1 0 0 0 := rfl
theorem oq_X5_readWork_103 : cw_ho 71 103 (.iload_n 2) 1 0 0 0 := rfl
theorem oq_X5_readWork_104 : cw_ho 71 104 (.iconst (-1)) 1 0 0 0 := rfl
theorem oq_X5_readWork_105 : cw_ho 71 105 (.if_icmp .ne 10) 3 0 0 0 := rfl
theorem oq_X5_readWork_108 : cw_ho 71 108 (.aload_n 0) 1 0 0 0 := rfl
theorem oq_X5_readWork_109 : cw_ho 71 109 (.iconst 1) 1 0 0 0 := rfl
theorem oq_X5_readWork_110 : cw_ho 71 110 (.invokevirtual 74) 3 61 1 5 := rfl
theorem oq_X5_readWork_113 : cw_ho 71 113 (.pop) 1 0 0 0 := rfl
theorem oq_X5_readWork_114 : cw_ho 71 114 (.return_) 1 0 0 0 := rfl
theorem oq_X5_readWork_115 : cw_ho 71 115 (.aload_n 0) 1 0 0 0 := rfl
theorem oq_X5_readWork_116 : cw_ho 71 116 (.getfield 20) 3 5 0 4 := rfl
theorem oq_X5_readWork_119 : cw_ho 71 119 (.invokevirtual 82) 3 78 0 6 := rfl
theorem oq_X5_readWork_122 : cw_ho 71 122 (.iload_n 2) 1 0 0 0 := rfl
theorem oq_X5_readWork_123 : cw_ho 71 123 (.invokestatic 222) 3 73 1 0 := rfl
theorem oq_X5_readWork_126 : cw_ho 71 126 (.istore_n 3) 1 0 0 0 := rfl
theorem oq_X5_readWork_127 : cw_ho 71 127 (.aload_n 0) 1 0 0 0 := rfl
theorem oq_X5_readWork_128 : cw_ho 71 128 (.getfield 33) 3 5 2 4 := rfl
theorem oq_X5_readWork_131 : cw_ho 71 131 (.getfield 225) 3 4 12 4 := rfl
theorem oq_X5_readWork_134 : cw_ho 71 134 (.iload_n 1) 1 0 0 0 := rfl
theorem oq_X5_readWork_135 : cw_ho 71 135 (.iload_n 2) 1 0 0 0 := rfl
theorem oq_X5_readWork_136 : cw_ho 71 136 (.iastore) 1 0 0 0 := rfl
theorem oq_X5_readWork_137 : cw_ho 71 137 (.aload_n 0) 1 0 0 0 := rfl
theorem oq_X5_readWork_138 : cw_ho 71 138 (.getfield 33) 3 5 2 4 := rfl
theorem oq_X5_readWork_141 : cw_ho 71 141 (.getfield 228) 3 4 13 4 := rfl
theorem oq_X5_readWork_144 : cw_ho 71 144 (.iload_n 1) 1 0 0 0 := rfl
theorem oq_X5_readWork_145 : cw_ho 71 145 (.iload_n 3) 1 0 0 0 := rfl
theorem oq_X5_readWork_146 : cw_ho 71 146 (.ifCond .lt 12) 3 0 0 0 := rfl
theorem oq_X5_readWork_149 : cw_ho 71 149 (.aload_n 0) 1 0 0 0 := rfl
theorem oq_X5_readWork_150 : cw_ho 71 150 (.iconst 0) 1 0 0 0 := rfl
theorem oq_X5_readWork_151 : cw_ho 71 151 (.iload_n 3) 1 0 0 0 := rfl
theorem oq_X5_readWork_152 : cw_ho 71 152 (.invokevirtual 93) 3 63 2 5 := rfl
theorem oq_X5_readWork_155 : cw_ho 71 155 (.goto 4) 3 0 0 0 := rfl
theorem oq_X5_readWork_158 : cw_ho 71 158 (.iconst 0) 1 0 0 0 := rfl
theorem oq_X5_readWork_159 : cw_ho 71 159 (.iastore) 1 0 0 0 := rfl
theorem oq_X5_readWork_160 : cw_ho 71 160 (.aload_n 0) 1 0 0 0 := rfl
theorem oq_X5_readWork_161 : cw_ho 71 161 (.getfield 33) 3 5 2 4 := rfl
theorem oq_X5_readWork_164 : cw_ho 71 164 (.iload_n 1) 1 0 0 0 := rfl
theorem oq_X5_readWork_165 : cw_ho 71 165 (.iconst 1) 1 0 0 0 := rfl
theorem oq_X5_readWork_166 : cw_ho 71 166 (.iadd) 1 0 0 0 := rfl
theorem oq_X5_readWork_167 : cw_ho 71 167 (.putfield 210) 3 4 14 0 := rfl
theorem oq_X5_readWork_170 : cw_ho 71 170 (.return_) 1 0 0 0 := rfl
set_option maxHeartbeats 8000000 in
theorem ct_readWork {h0 : cv_H} {n p : Nat} (ht : ∀ i, t i = ri_at h0 1 i % 256) (hwd : ∀ i, i < 34 → ri_at h0 52 i = tz_wc.getD i 0) (hn9 : n ≤ 900) (hT : cw_T G h0) {b : Nat} (hb : b = 2 ∨ b = 26) (hpl : zPL b h0) (hS : zCs t n (.inr p) h0) {l : List Int} (hc : ri_at h0 b 14 = l.length) (hlm : l.length ≤ 6) (hl : zNm h0 (b + 8) 0 l) (hQ : ∀ h', cw_T G h' → cw_Fr cw_Ds cw_sh kk_X5_readWork.2.2.2.2.2.1 h0 h' → zCs t n (zst (zwl t n l p)) h' ∧ (∀ v q, zwl t n l p = .inr (v, q) → ri_at h' b 14 = l.length + 1 ∧ zNm h' (b + 8) 0 (l ++ [v])) → Q (none, h')) : cw_X X 71 Q 0 (cv_ent 0 [cv_r 50]) [] h0 := by
  have Fh0 : cw_Fr cw_Ds cw_sh kk_X5_readWork.2.2.2.2.2.1 h0 h0 := cw_Fr_refl
  have hA : ∀ h, cw_Fr cw_Ds cw_sh kk_X5_readWork.2.2.2.2.2.1 h0 h → ∀ i, ri_at h 1 i = ri_at h0 1 i := fun h F i => ri_frr F (k := 1) (d := 13) rfl rfl (by decide +kernel)
  have hB : ∀ h, cw_Fr cw_Ds cw_sh kk_X5_readWork.2.2.2.2.2.1 h0 h → ∀ i, ri_at h 52 i = ri_at h0 52 i := fun h F i => ri_frr F (k := 52) (d := 43) rfl rfl (by decide +kernel)
  have hPL : ∀ h, cw_Fr cw_Ds cw_sh kk_X5_readWork.2.2.2.2.2.1 h0 h → zPL b h := fun h F => zPL_fr hb F (by decide +kernel) hpl
  have hb4 : cw_sh[b]? = some 4 := by rcases hb with rfl | rfl <;> rfl
  have hkb1 : cw_sh[b + 1]? = some 28 := by rcases hb with rfl | rfl <;> rfl
  have hkb2 : cw_sh[b + 2]? = some 29 := by rcases hb with rfl | rfl <;> rfl
  have hkb3 : cw_sh[b + 3]? = some 30 := by rcases hb with rfl | rfl <;> rfl
  have hkb4 : cw_sh[b + 4]? = some 31 := by rcases hb with rfl | rfl <;> rfl
  have hkb5 : cw_sh[b + 5]? = some 32 := by rcases hb with rfl | rfl <;> rfl
  have hkb6 : cw_sh[b + 6]? = some 33 := by rcases hb with rfl | rfl <;> rfl
  have hkb7 : cw_sh[b + 7]? = some 34 := by rcases hb with rfl | rfl <;> rfl
  have hkb8 : cw_sh[b + 8]? = some 35 := by rcases hb with rfl | rfl <;> rfl
  have hkb9 : cw_sh[b + 9]? = some 36 := by rcases hb with rfl | rfl <;> rfl
  have hkb10 : cw_sh[b + 10]? = some 37 := by rcases hb with rfl | rfl <;> rfl
  have hkb11 : cw_sh[b + 11]? = some 38 := by rcases hb with rfl | rfl <;> rfl
  have hkb12 : cw_sh[b + 12]? = some 39 := by rcases hb with rfl | rfl <;> rfl
  have hkb13 : cw_sh[b + 13]? = some 40 := by rcases hb with rfl | rfl <;> rfl
  have hkb14 : cw_sh[b + 14]? = some 41 := by rcases hb with rfl | rfl <;> rfl
  have hkb15 : cw_sh[b + 15]? = some 42 := by rcases hb with rfl | rfl <;> rfl
  refine ex_al oq_X5_readWork_0 rfl ?_
  refine ex_gf oq_X5_readWork_1 hT (k := 50) (d := 5) rfl rfl ((hPL _ Fh0).1) ?_
  obtain ⟨x101, ax101, rx101, lx101, ux101⟩ := ri_fld (k := b) (d := 4) (f := 14) hT hb4 rfl rfl
  try dsimp only at lx101 ux101
  refine ex_gf oq_X5_readWork_4 hT (k := b) (d := 4) hb4 rfl ax101 ?_
  have rx101 := (rx101.symm.trans hc : x101.toInt = (l.length : Int))
  refine ex_isA oq_X5_readWork_7 (fun L102 gL102_1 kL102 => ?_)
  have gL102_0 : cv_get L102 0 = some (cv_r 50) := kL102 0 _ (by decide) (fun _ => rfl) rfl
  refine ex_il oq_X5_readWork_8 gL102_1 ?_
  refine ex_if0 oq_X5_readWork_9 (t := 18) rfl rfl (fun (c103 : x101.toInt < 0) => ?_) (fun (c103 : ¬ (x101.toInt < 0)) => ?_)
  · exfalso; omega
  · refine ex_il oq_X5_readWork_12 gL102_1 ?_
    refine ex_bi oq_X5_readWork_13 (m := 6) (by decide) (fun x104 hx104 => ?_)
    refine ex_if oq_X5_readWork_15 (t := 25) rfl rfl (fun (c105 : x101.toInt < x104.toInt) => ?_) (fun (c105 : ¬ (x101.toInt < x104.toInt)) => ?_)
    · refine ex_al oq_X5_readWork_25 gL102_0 ?_
      refine ex_gf oq_X5_readWork_26 hT (k := 50) (d := 5) rfl rfl (ri_ref (k := 50) (k' := 51) (d := 5) (f := 0) hT rfl rfl rfl (by decide) (ri_uniq (by decide +kernel))) ?_
      refine ex_cv oq_X5_readWork_29 (by decide) hT (k := 51) (d := 6) (as := []) (stk := []) rfl rfl rfl rfl rfl rfl ⟨rfl, rfl⟩ (R := fun o => ∃ hb : cv_H, o = (none, hb) ∧ cw_T G hb ∧ cw_Fr cw_Ds cw_sh kk_X6_step.2.2.2.2.2.1 h0 hb ∧ zCs t n (.inr (zx t n p)) hb) (ct_stepC (t := t) (n := n) (p := p) (fun i => by rw [ht, ← hA _ Fh0]) (fun i hi => by rw [hB _ Fh0]; exact hwd i hi) hn9 hT hS (fun hb b1 b2 b3 => ⟨hb, rfl, b1, b2, b3⟩)) (fun o ho => ?_)
      obtain ⟨h106, rfl, Th106, Ch106, Sh106⟩ := ho
      show cw_X _ _ _ _ _ [] h106
      have Fh106 : cw_Fr cw_Ds cw_sh kk_X5_readWork.2.2.2.2.2.1 h0 h106 := cw_Fr_tr Fh0 (cw_Fr_mono (by decide +kernel) Ch106)
      have eh106_b_14 : ri_at h106 b 14 = (l.length : Int) := (ri_frf Ch106 (k := b) (d := 4) hb4 rfl (by decide +kernel)).trans hc
      obtain ⟨pnh106, yah106, ybh106, ych106, ydh106, yfh106⟩ := zCs_at Sh106
      obtain ⟨kch106, ykh106⟩ : ∃ k, ri_at h106 51 4 = k := ⟨_, rfl⟩
      obtain ⟨vch106, yvh106⟩ : ∃ k, ri_at h106 51 6 = k := ⟨_, rfl⟩
      rw [ykh106, yvh106] at ydh106
      replace ydh106 := zhd_i ydh106
      have zlh106 := zx_le (t := t) (n := n) (p := (zx t n p)) (by omega)
      refine ex_al oq_X5_readWork_32 gL102_0 ?_
      refine ex_gf oq_X5_readWork_33 Th106 (k := 50) (d := 5) rfl rfl ((hPL _ Fh106).1) ?_
      refine ex_gf oq_X5_readWork_36 Th106 (k := b) (d := 4) hb4 rfl ((show cw_at h106 b 10 = some (cv_r (b + 8)) from (hPL _ Fh106).2.1 10 (by decide))) ?_
      refine ex_il oq_X5_readWork_39 gL102_1 ?_
      refine ex_al oq_X5_readWork_40 gL102_0 ?_
      refine ex_al oq_X5_readWork_41 gL102_0 ?_
      refine ex_gf oq_X5_readWork_42 Th106 (k := 50) (d := 5) rfl rfl ((hPL _ Fh106).1) ?_
      refine ex_gf oq_X5_readWork_45 Th106 (k := b) (d := 4) hb4 rfl ((show cw_at h106 b 10 = some (cv_r (b + 8)) from (hPL _ Fh106).2.1 10 (by decide))) ?_
      refine ex_il oq_X5_readWork_48 gL102_1 ?_
      have hlh106 : zNm h106 (b + 8) 0 l := zNm_eq hl (fun i => (ri_frr Ch106 (k := (b + 8)) (d := 35) hkb8 rfl (by decide +kernel)))
      refine ex_cv oq_X5_readWork_49 (by decide) Th106 (k := 50) (d := 5) (as := [cv_r (b + 8), cv_i x101]) (stk := [cv_i x101, cv_r (b + 8)]) rfl rfl rfl rfl rfl rfl ⟨rfl, rfl⟩ (R := fun o => ∃ (x : Int32) (hb : cv_H), o = (some (cv_i x), hb) ∧ cw_T G hb ∧ cw_Fr cw_Ds cw_sh kk_X5_readNewName_1.2.2.2.2.2.1 h106 hb ∧ zCr t n hb x (zbd (.inr (zx t n p)) (zm t n l))) (ct_nameSW (t := t) (n := n) (l := l) hb (fun i => by rw [ht, ← hA _ Fh106]) (fun i hi => by rw [hB _ Fh106]; exact hwd i hi) hn9 Th106 (by omega) (by omega) hlh106 Sh106 (fun x hb b1 b2 b3 => ⟨x, hb, rfl, b1, b2, b3⟩)) (fun o ho => ?_)
      obtain ⟨x107, h108, rfl, Th108, Ch108, dx107⟩ := ho
      show cw_X _ _ _ _ _ [cv_i x107, cv_i x101, cv_r (b + 8)] h108
      obtain ⟨z1, y1, wx107, Sh108⟩ : ∃ z, (zm t n l) (zx t n p) = z ∧ x107.toInt = zvl z ∧ zCs t n (zst z) h108 := ⟨_, rfl, zCr_i dx107⟩
      clear dx107
      have Fh108 : cw_Fr cw_Ds cw_sh kk_X5_readWork.2.2.2.2.2.1 h0 h108 := cw_Fr_tr Fh106 (cw_Fr_mono (by decide +kernel) Ch108)
      have eh108_b_14 : ri_at h108 b 14 = (l.length : Int) := (ri_frf Ch108 (k := b) (d := 4) hb4 rfl (by decide +kernel)).trans eh106_b_14
      clear eh106_b_14
      refine ex_iw1 oq_X5_readWork_52 Th108 (k := (b + 8)) (d := 35) (j := l.length) hkb8 rfl (by omega) (by omega) ⟨(cw_i32 _).1, (cw_i32 _).2⟩ (fun h109 Th109 wh109 => ?_)
      have Fh109 : cw_Fr cw_Ds cw_sh kk_X5_readWork.2.2.2.2.2.1 h0 h109 := cw_Fr_tr Fh108 (cw_Fr_wrr wh109 (k := (b + 8)) (d := 35) hkb8 rfl (by decide +kernel))
      have eh109_b_14 : ri_at h109 b 14 = (l.length : Int) := (ri_ne wh109 (.inl (cw_kne (k := b) (d := 4) (k' := (b + 8)) (d' := 35) hb4 hkb8 (by decide)))).trans eh108_b_14
      clear eh108_b_14
      have Sh109 := zCs_wr (d := 35) (k := (b + 8)) wh109 hkb8 Sh108 (.inl ⟨by decide, by decide⟩)
      refine ex_al oq_X5_readWork_53 gL102_0 ?_
      refine ex_gf oq_X5_readWork_54 Th109 (k := 50) (d := 5) rfl rfl ((hPL _ Fh109).1) ?_
      refine ex_gf oq_X5_readWork_57 Th109 (k := b) (d := 4) hb4 rfl ((show cw_at h109 b 11 = some (cv_r (b + 9)) from (hPL _ Fh109).2.1 11 (by decide))) ?_
      refine ex_il oq_X5_readWork_60 gL102_1 ?_
      refine ex_al oq_X5_readWork_61 gL102_0 ?_
      refine ex_ic oq_X5_readWork_62 (m := 1) (by decide) (fun x110 hx110 => ?_)
      refine ex_si oq_X5_readWork_63 (m := 999) (by decide) (fun x111 hx111 => ?_)
      refine ex_cv oq_X5_readWork_66 (by decide) Th109 (k := 50) (d := 5) (as := [cv_i x110, cv_i x111]) (stk := [cv_i x101, cv_r (b + 9)]) rfl rfl rfl rfl rfl rfl ⟨rfl, rfl⟩ (R := fun o => ∃ (x : Int32) (hb : cv_H), o = (some (cv_i x), hb) ∧ cw_T G hb ∧ cw_Fr cw_Ds cw_sh kk_X5_readNumber_1.2.2.2.2.2.1 h109 hb ∧ zCr t n hb x (zbd (zst z1) (zn t n x110.toInt x111.toInt))) (ct_readNumber (t := t) (n := n) (fun i => by rw [ht, ← hA _ Fh109]) (fun i hi => by rw [hB _ Fh109]; exact hwd i hi) hn9 Th109 Sh109 x110 x111 (by omega) (by omega) (fun x hb b1 b2 b3 => ⟨x, hb, rfl, b1, b2, b3⟩)) (fun o ho => ?_)
      obtain ⟨x112, h113, rfl, Th113, Ch113, dx112⟩ := ho
      show cw_X _ _ _ _ _ [cv_i x112, cv_i x101, cv_r (b + 9)] h113
      obtain ⟨z2, y2, wx112, Sh113⟩ : ∃ z, zbd (zst z1) (zn t n x110.toInt x111.toInt) = z ∧ x112.toInt = zvl z ∧ zCs t n (zst z) h113 := ⟨_, rfl, zCr_i dx112⟩
      clear dx112
      have Fh113 : cw_Fr cw_Ds cw_sh kk_X5_readWork.2.2.2.2.2.1 h0 h113 := cw_Fr_tr Fh109 (cw_Fr_mono (by decide +kernel) Ch113)
      have eh113_b_14 : ri_at h113 b 14 = (l.length : Int) := (ri_frf Ch113 (k := b) (d := 4) hb4 rfl (by decide +kernel)).trans eh109_b_14
      clear eh109_b_14
      have n2 := zvl_n y2
      rw [hx110] at y2 n2
      rw [hx111] at y2 n2
      refine ex_iw1 oq_X5_readWork_69 Th113 (k := (b + 9)) (d := 36) (j := l.length) hkb9 rfl (by omega) (by omega) ⟨(cw_i32 _).1, (cw_i32 _).2⟩ (fun h114 Th114 wh114 => ?_)
      have Fh114 : cw_Fr cw_Ds cw_sh kk_X5_readWork.2.2.2.2.2.1 h0 h114 := cw_Fr_tr Fh113 (cw_Fr_wrr wh114 (k := (b + 9)) (d := 36) hkb9 rfl (by decide +kernel))
      have eh114_b_14 : ri_at h114 b 14 = (l.length : Int) := (ri_ne wh114 (.inl (cw_kne (k := b) (d := 4) (k' := (b + 9)) (d' := 36) hb4 hkb9 (by decide)))).trans eh113_b_14
      clear eh113_b_14
      have Sh114 := zCs_wr (d := 36) (k := (b + 9)) wh114 hkb9 Sh113 (.inl ⟨by decide, by decide⟩)
      refine ex_al oq_X5_readWork_70 gL102_0 ?_
      obtain ⟨x115, ax115, rx115, lx115, ux115⟩ := ri_fld (k := 50) (d := 5) (f := 4) Th114 rfl rfl rfl
      try dsimp only at lx115 ux115
      refine ex_gf oq_X5_readWork_71 Th114 (k := 50) (d := 5) rfl rfl ax115 ?_
      clear lx115 ux115
      refine ex_if0 oq_X5_readWork_74 (t := 101) rfl rfl (fun (c116 : ¬ x115.toInt = 0) => ?_) (fun (c116 : ¬ (¬ x115.toInt = 0)) => ?_)
      · obtain ⟨eb, gb⟩ := zCs_bad Sh114 (fun q => c116 (by omega))
        rw [gb] at Sh114
        refine ex_ic oq_X5_readWork_101 (m := (-1)) (by decide) (fun x117 hx117 => ?_)
        refine ex_isA oq_X5_readWork_102 (fun L118 gL118_2 kL118 => ?_)
        have gL118_1 : cv_get L118 1 = some (cv_i x101) := kL118 1 _ (by decide) (fun _ => rfl) gL102_1
        have gL118_0 : cv_get L118 0 = some (cv_r 50) := kL118 0 _ (by decide) (fun q => absurd q (by decide)) gL102_0
        refine ex_il oq_X5_readWork_103 gL118_2 ?_
        refine ex_ic oq_X5_readWork_104 (m := (-1)) (by decide) (fun x119 hx119 => ?_)
        refine ex_if oq_X5_readWork_105 (t := 115) rfl rfl (fun (c120 : ¬ x117.toInt = x119.toInt) => ?_) (fun (c120 : ¬ (¬ x117.toInt = x119.toInt)) => ?_)
        · exfalso; omega
        · refine ex_al oq_X5_readWork_108 gL118_0 ?_
          refine ex_ic oq_X5_readWork_109 (m := 1) (by decide) (fun x121 hx121 => ?_)
          refine ex_cv oq_X5_readWork_110 (by decide) Th114 (k := 50) (d := 5) (as := [cv_i x121]) (stk := []) rfl rfl rfl rfl rfl rfl ⟨rfl, rfl⟩ (R := fun o => ∃ (x : Int32) (hb : cv_H), o = (some (cv_i x), hb) ∧ cw_T G hb ∧ cw_Fr cw_Ds cw_sh kk_X5_fail.2.2.2.2.2.1 h114 hb ∧ x.toInt = 0 ∧ zCs t n (.inl eb) hb) (ct_failB (t := t) (n := n) Th114 Sh114 x121 (fun x hb b1 b2 b3 b4 => ⟨x, hb, rfl, b1, b2, b3, b4⟩)) (fun o ho => ?_)
          obtain ⟨x122, h123, rfl, Th123, Ch123, zh123, Sh123⟩ := ho
          show cw_X _ _ _ _ _ [cv_i x122] h123
          have Fh123 : cw_Fr cw_Ds cw_sh kk_X5_readWork.2.2.2.2.2.1 h0 h123 := cw_Fr_tr Fh114 (cw_Fr_mono (by decide +kernel) Ch123)
          have eh123_b_14 : ri_at h123 b 14 = (l.length : Int) := (ri_frf Ch123 (k := b) (d := 4) hb4 rfl (by decide +kernel)).trans eh114_b_14
          clear eh114_b_14
          refine ex_pop oq_X5_readWork_113 rfl ?_
          have fin : zst (zwl t n l p) = (.inl eb) ∧ ∀ v q, zwl t n l p = .inr (v, q) → True := by
            unfold zwl
            rw [if_neg (by omega)]
            rw [y1]
            rcases z1 with e1 | ⟨v1, q1⟩
            · subst y2; cases gb; exact ⟨rfl, fun v q h => by first | (cases h; done) | trivial⟩
            · rw [zb2_r rfl]
              replace y2 := zbd_s y2
              rw [y2]
              rcases z2 with e2 | ⟨v2, q2⟩
              · cases gb; exact ⟨rfl, fun v q h => by first | (cases h; done) | trivial⟩
              · rw [zb2_r rfl]
                cases gb
          exact ex_retv oq_X5_readWork_114 rfl (hQ h123 Th123 Fh123 ⟨by rw [fin.1]; exact Sh123, fun v q h => (zst_no fin.1 h).elim⟩)
      · replace c116 : x115.toInt = 0 := by omega
        obtain ⟨q2, g2⟩ := zCs_good Sh114 (by omega)
        obtain ⟨v2, u2⟩ := zst_r g2
        rw [g2] at Sh114
        rw [u2] at y2
        obtain ⟨q1, g1, yy2⟩ := zbd_r y2
        clear y2
        have y2 := yy2
        clear yy2
        obtain ⟨v1, u1⟩ := zst_r g1
        rw [u1] at y1
        subst u1
        subst u2
        clear yah106 ybh106 ych106 ykh106 yvh106 yfh106
        obtain ⟨pnh114, yah114, ybh114, ych114, ydh114, yfh114⟩ := zCs_at Sh114
        obtain ⟨kch114, ykh114⟩ : ∃ k, ri_at h114 51 4 = k := ⟨_, rfl⟩
        obtain ⟨vch114, yvh114⟩ : ∃ k, ri_at h114 51 6 = k := ⟨_, rfl⟩
        rw [ykh114, yvh114] at ydh114
        replace ydh114 := zhd_i ydh114
        have zlh114 := zx_le (t := t) (n := n) (p := q2) (by omega)
        refine ex_al oq_X5_readWork_77 gL102_0 ?_
        refine ex_gf oq_X5_readWork_78 Th114 (k := 50) (d := 5) rfl rfl (ri_ref (k := 50) (k' := 51) (d := 5) (f := 0) Th114 rfl rfl rfl (by decide) (ri_uniq (by decide +kernel))) ?_
        obtain ⟨x124, ax124, rx124, lx124, ux124⟩ := ri_fld (k := 51) (d := 6) (f := 4) Th114 rfl rfl rfl
        try dsimp only at lx124 ux124
        refine ex_gf oq_X5_readWork_81 Th114 (k := 51) (d := 6) rfl rfl ax124 ?_
        clear lx124 ux124
        have rx124 := (rx124.symm.trans ykh114 : x124.toInt = kch114)
        refine ex_ic oq_X5_readWork_84 (m := 2) (by decide) (fun x125 hx125 => ?_)
        refine ex_if oq_X5_readWork_85 (t := 101) rfl rfl (fun (c126 : ¬ x124.toInt = x125.toInt) => ?_) (fun (c126 : ¬ (¬ x124.toInt = x125.toInt)) => ?_)
        · have zkw : (-1 : Int) = zwk (zk t n q2) (zw t n q2) := (zkc_n (show tz_rel _ _ _ _ from ydh114) (by omega)).symm
          refine ex_ic oq_X5_readWork_101 (m := (-1)) (by decide) (fun x127 hx127 => ?_)
          refine ex_isA oq_X5_readWork_102 (fun L128 gL128_2 kL128 => ?_)
          have gL128_1 : cv_get L128 1 = some (cv_i x101) := kL128 1 _ (by decide) (fun _ => rfl) gL102_1
          have gL128_0 : cv_get L128 0 = some (cv_r 50) := kL128 0 _ (by decide) (fun q => absurd q (by decide)) gL102_0
          refine ex_il oq_X5_readWork_103 gL128_2 ?_
          refine ex_ic oq_X5_readWork_104 (m := (-1)) (by decide) (fun x129 hx129 => ?_)
          refine ex_if oq_X5_readWork_105 (t := 115) rfl rfl (fun (c130 : ¬ x127.toInt = x129.toInt) => ?_) (fun (c130 : ¬ (¬ x127.toInt = x129.toInt)) => ?_)
          · exfalso; omega
          · refine ex_al oq_X5_readWork_108 gL128_0 ?_
            refine ex_ic oq_X5_readWork_109 (m := 1) (by decide) (fun x131 hx131 => ?_)
            refine ex_cv oq_X5_readWork_110 (by decide) Th114 (k := 50) (d := 5) (as := [cv_i x131]) (stk := []) rfl rfl rfl rfl rfl rfl ⟨rfl, rfl⟩ (R := fun o => ∃ (x : Int32) (hb : cv_H), o = (some (cv_i x), hb) ∧ cw_T G hb ∧ cw_Fr cw_Ds cw_sh kk_X5_fail.2.2.2.2.2.1 h114 hb ∧ x.toInt = 0 ∧ zCs t n (.inl (1, za t n q2)) hb) (ct_failP (t := t) (n := n) (p := q2) Th114 Sh114 x131 hx131 (by decide) (fun x hb b1 b2 b3 b4 => ⟨x, hb, rfl, b1, b2, b3, b4⟩)) (fun o ho => ?_)
            obtain ⟨x132, h133, rfl, Th133, Ch133, zh133, Sh133⟩ := ho
            show cw_X _ _ _ _ _ [cv_i x132] h133
            have Fh133 : cw_Fr cw_Ds cw_sh kk_X5_readWork.2.2.2.2.2.1 h0 h133 := cw_Fr_tr Fh114 (cw_Fr_mono (by decide +kernel) Ch133)
            have eh133_b_14 : ri_at h133 b 14 = (l.length : Int) := (ri_frf Ch133 (k := b) (d := 4) hb4 rfl (by decide +kernel)).trans eh114_b_14
            clear eh114_b_14
            refine ex_pop oq_X5_readWork_113 rfl ?_
            have fin : zst (zwl t n l p) = (.inl (1, za t n q2)) ∧ ∀ v q, zwl t n l p = .inr (v, q) → True := by
              unfold zwl
              rw [if_neg (by omega), zb2_r y1, zb2_r y2, if_pos (by omega)]
              exact ⟨rfl, fun v q h => by first | (cases h; done) | (cases h; rfl) | trivial⟩
            exact ex_retv oq_X5_readWork_114 rfl (hQ h133 Th133 Fh133 ⟨by rw [fin.1]; exact Sh133, fun v q h => (zst_no fin.1 h).elim⟩)
        · refine ex_al oq_X5_readWork_88 gL102_0 ?_
          refine ex_gf oq_X5_readWork_89 Th114 (k := 50) (d := 5) rfl rfl (ri_ref (k := 50) (k' := 51) (d := 5) (f := 0) Th114 rfl rfl rfl (by decide) (ri_uniq (by decide +kernel))) ?_
          obtain ⟨x134, ax134, rx134, lx134, ux134⟩ := ri_fld (k := 51) (d := 6) (f := 6) Th114 rfl rfl rfl
          try dsimp only at lx134 ux134
          refine ex_gf oq_X5_readWork_92 Th114 (k := 51) (d := 6) rfl rfl ax134 ?_
          clear lx134 ux134
          have rx134 := (rx134.symm.trans yvh114 : x134.toInt = vch114)
          refine ex_cs oq_X5_readWork_95 (by decide) (as := [cv_i x134]) (stk := []) rfl rfl rfl ⟨rfl, rfl⟩ (R := fun o => ∃ x : Int32, o = (some (cv_i x), h114) ∧ x.toInt = zkc x134.toInt) (ct_kindOf x134 (fun x q => ⟨x, rfl, q⟩)) (fun o ho => ?_)
          obtain ⟨x135, rfl, mx135⟩ := ho
          show cw_X _ _ _ _ _ [cv_i x135] h114
          have zkw : x135.toInt = zwk (zk t n q2) (zw t n q2) := by rw [mx135, show x134.toInt = vch114 from by omega]; exact zkc_e (show tz_rel _ _ _ _ from ydh114) (by omega)
          have zkb := zwk_b (k := zk t n q2) (w := zw t n q2)
          refine ex_go oq_X5_readWork_98 (t := 102) rfl rfl ?_
          refine ex_isA oq_X5_readWork_102 (fun L136 gL136_2 kL136 => ?_)
          have gL136_1 : cv_get L136 1 = some (cv_i x101) := kL136 1 _ (by decide) (fun _ => rfl) gL102_1
          have gL136_0 : cv_get L136 0 = some (cv_r 50) := kL136 0 _ (by decide) (fun q => absurd q (by decide)) gL102_0
          refine ex_il oq_X5_readWork_103 gL136_2 ?_
          refine ex_ic oq_X5_readWork_104 (m := (-1)) (by decide) (fun x137 hx137 => ?_)
          refine ex_if oq_X5_readWork_105 (t := 115) rfl rfl (fun (c138 : ¬ x135.toInt = x137.toInt) => ?_) (fun (c138 : ¬ (¬ x135.toInt = x137.toInt)) => ?_)
          · refine ex_al oq_X5_readWork_115 gL136_0 ?_
            refine ex_gf oq_X5_readWork_116 Th114 (k := 50) (d := 5) rfl rfl (ri_ref (k := 50) (k' := 51) (d := 5) (f := 0) Th114 rfl rfl rfl (by decide) (ri_uniq (by decide +kernel))) ?_
            refine ex_cv oq_X5_readWork_119 (by decide) Th114 (k := 51) (d := 6) (as := []) (stk := []) rfl rfl rfl rfl rfl rfl ⟨rfl, rfl⟩ (R := fun o => ∃ hb : cv_H, o = (none, hb) ∧ cw_T G hb ∧ cw_Fr cw_Ds cw_sh kk_X6_step.2.2.2.2.2.1 h114 hb ∧ zCs t n (.inr (zx t n q2)) hb) (ct_stepC (t := t) (n := n) (p := q2) (fun i => by rw [ht, ← hA _ Fh114]) (fun i hi => by rw [hB _ Fh114]; exact hwd i hi) hn9 Th114 Sh114 (fun hb b1 b2 b3 => ⟨hb, rfl, b1, b2, b3⟩)) (fun o ho => ?_)
            obtain ⟨h139, rfl, Th139, Ch139, Sh139⟩ := ho
            show cw_X _ _ _ _ _ [] h139
            have Fh139 : cw_Fr cw_Ds cw_sh kk_X5_readWork.2.2.2.2.2.1 h0 h139 := cw_Fr_tr Fh114 (cw_Fr_mono (by decide +kernel) Ch139)
            have eh139_b_14 : ri_at h139 b 14 = (l.length : Int) := (ri_frf Ch139 (k := b) (d := 4) hb4 rfl (by decide +kernel)).trans eh114_b_14
            clear eh114_b_14
            clear yah114 ybh114 ych114 ykh114 yvh114 yfh114
            obtain ⟨pnh139, yah139, ybh139, ych139, ydh139, yfh139⟩ := zCs_at Sh139
            obtain ⟨kch139, ykh139⟩ : ∃ k, ri_at h139 51 4 = k := ⟨_, rfl⟩
            obtain ⟨vch139, yvh139⟩ : ∃ k, ri_at h139 51 6 = k := ⟨_, rfl⟩
            rw [ykh139, yvh139] at ydh139
            replace ydh139 := zhd_i ydh139
            have zlh139 := zx_le (t := t) (n := n) (p := (zx t n q2)) (by omega)
            refine ex_il oq_X5_readWork_122 gL136_2 ?_
            refine ex_cs oq_X5_readWork_123 (by decide) (as := [cv_i x135]) (stk := []) rfl rfl rfl ⟨rfl, rfl⟩ (R := fun o => ∃ x : Int32, o = (some (cv_i x), h139) ∧ x.toInt = zmc x135.toInt) (ct_mostOf x135 (fun x q => ⟨x, rfl, q⟩)) (fun o ho => ?_)
            obtain ⟨x140, rfl, mx140⟩ := ho
            show cw_X _ _ _ _ _ [cv_i x140] h139
            have zmb := zmc_b (k := x135.toInt)
            refine ex_isA oq_X5_readWork_126 (fun L141 gL141_3 kL141 => ?_)
            have gL141_2 : cv_get L141 2 = some (cv_i x135) := kL141 2 _ (by decide) (fun _ => rfl) gL136_2
            have gL141_1 : cv_get L141 1 = some (cv_i x101) := kL141 1 _ (by decide) (fun q => absurd q (by decide)) gL136_1
            have gL141_0 : cv_get L141 0 = some (cv_r 50) := kL141 0 _ (by decide) (fun q => absurd q (by decide)) gL136_0
            refine ex_al oq_X5_readWork_127 gL141_0 ?_
            refine ex_gf oq_X5_readWork_128 Th139 (k := 50) (d := 5) rfl rfl ((hPL _ Fh139).1) ?_
            refine ex_gf oq_X5_readWork_131 Th139 (k := b) (d := 4) hb4 rfl ((show cw_at h139 b 12 = some (cv_r (b + 10)) from (hPL _ Fh139).2.1 12 (by decide))) ?_
            refine ex_il oq_X5_readWork_134 gL141_1 ?_
            refine ex_il oq_X5_readWork_135 gL141_2 ?_
            refine ex_iw1 oq_X5_readWork_136 Th139 (k := (b + 10)) (d := 37) (j := l.length) hkb10 rfl (by omega) (by omega) ⟨(cw_i32 _).1, (cw_i32 _).2⟩ (fun h142 Th142 wh142 => ?_)
            have Fh142 : cw_Fr cw_Ds cw_sh kk_X5_readWork.2.2.2.2.2.1 h0 h142 := cw_Fr_tr Fh139 (cw_Fr_wrr wh142 (k := (b + 10)) (d := 37) hkb10 rfl (by decide +kernel))
            have eh142_b_14 : ri_at h142 b 14 = (l.length : Int) := (ri_ne wh142 (.inl (cw_kne (k := b) (d := 4) (k' := (b + 10)) (d' := 37) hb4 hkb10 (by decide)))).trans eh139_b_14
            clear eh139_b_14
            have Sh142 := zCs_wr (d := 37) (k := (b + 10)) wh142 hkb10 Sh139 (.inl ⟨by decide, by decide⟩)
            refine ex_al oq_X5_readWork_137 gL141_0 ?_
            refine ex_gf oq_X5_readWork_138 Th142 (k := 50) (d := 5) rfl rfl ((hPL _ Fh142).1) ?_
            refine ex_gf oq_X5_readWork_141 Th142 (k := b) (d := 4) hb4 rfl ((show cw_at h142 b 13 = some (cv_r (b + 11)) from (hPL _ Fh142).2.1 13 (by decide))) ?_
            refine ex_il oq_X5_readWork_144 gL141_1 ?_
            refine ex_il oq_X5_readWork_145 gL141_3 ?_
            refine ex_if0 oq_X5_readWork_146 (t := 158) rfl rfl (fun (c143 : x140.toInt < 0) => ?_) (fun (c143 : ¬ (x140.toInt < 0)) => ?_)
            · refine ex_ic oq_X5_readWork_158 (m := 0) (by decide) (fun x144 hx144 => ?_)
              refine ex_iw1 oq_X5_readWork_159 Th142 (k := (b + 11)) (d := 38) (j := l.length) hkb11 rfl (by omega) (by omega) ⟨(cw_i32 _).1, (cw_i32 _).2⟩ (fun h145 Th145 wh145 => ?_)
              have Fh145 : cw_Fr cw_Ds cw_sh kk_X5_readWork.2.2.2.2.2.1 h0 h145 := cw_Fr_tr Fh142 (cw_Fr_wrr wh145 (k := (b + 11)) (d := 38) hkb11 rfl (by decide +kernel))
              have eh145_b_14 : ri_at h145 b 14 = (l.length : Int) := (ri_ne wh145 (.inl (cw_kne (k := b) (d := 4) (k' := (b + 11)) (d' := 38) hb4 hkb11 (by decide)))).trans eh142_b_14
              clear eh142_b_14
              have Sh145 := zCs_wr (d := 38) (k := (b + 11)) wh145 hkb11 Sh142 (.inl ⟨by decide, by decide⟩)
              refine ex_al oq_X5_readWork_160 gL141_0 ?_
              refine ex_gf oq_X5_readWork_161 Th145 (k := 50) (d := 5) rfl rfl ((hPL _ Fh145).1) ?_
              refine ex_il oq_X5_readWork_164 gL141_1 ?_
              refine ex_ic oq_X5_readWork_165 (m := 1) (by decide) (fun x146 hx146 => ?_)
              refine ex_add oq_X5_readWork_166 (by omega) (fun x147 hx147 => ?_)
              refine ex_pfi oq_X5_readWork_167 Th145 (k := b) (d := 4) hb4 rfl rfl (by omega) (by omega) (fun h148 Th148 wh148 => ?_)
              have Fh148 : cw_Fr cw_Ds cw_sh kk_X5_readWork.2.2.2.2.2.1 h0 h148 := cw_Fr_tr Fh145 (cw_Fr_wrf wh148 (k := b) (d := 4) hb4 rfl (by decide +kernel))
              have eh148_b_14 : ri_at h148 b 14 = x147.toInt := ri_self wh148
              have Sh148 := zCs_wr (d := 4) (k := b) wh148 hb4 Sh145 (.inl ⟨by decide, by decide⟩)
              have fin : zst (zwl t n l p) = (.inr (zx t n q2)) ∧ ∀ v q, zwl t n l p = .inr (v, q) → v = v1 := by
                unfold zwl
                rw [if_neg (by omega), zb2_r y1, zb2_r y2, if_neg (by omega), if_neg (by omega)]
                exact ⟨rfl, fun v q h => by first | (cases h; done) | (cases h; rfl) | trivial⟩
              exact ex_retv oq_X5_readWork_170 rfl (hQ h148 Th148 Fh148 ⟨by rw [fin.1]; exact Sh148, fun v q h => ⟨by omega, by rw [fin.2 v q h]; exact zNm_end wh109 (zNm_eq hl (fun i => ((ri_frr Ch108 (k := (b + 8)) (d := 35) hkb8 rfl (by decide +kernel)).trans (ri_frr Ch106 (k := (b + 8)) (d := 35) hkb8 rfl (by decide +kernel))))) (fun i => ((ri_ne wh148 (.inl (cw_kne (k := (b + 8)) (d := 35) (k' := b) (d' := 4) hkb8 hb4 (by decide)))).trans ((ri_ne wh145 (.inl (cw_kne (k := (b + 8)) (d := 35) (k' := (b + 11)) (d' := 38) hkb8 hkb11 (by decide)))).trans ((ri_ne wh142 (.inl (cw_kne (k := (b + 8)) (d := 35) (k' := (b + 10)) (d' := 37) hkb8 hkb10 (by decide)))).trans ((ri_frr Ch139 (k := (b + 8)) (d := 35) hkb8 rfl (by decide +kernel)).trans ((ri_ne wh114 (.inl (cw_kne (k := (b + 8)) (d := 35) (k' := (b + 9)) (d' := 36) hkb8 hkb9 (by decide)))).trans (ri_frr Ch113 (k := (b + 8)) (d := 35) hkb8 rfl (by decide +kernel)))))))) (wx107)⟩⟩)
            · refine ex_al oq_X5_readWork_149 gL141_0 ?_
              refine ex_ic oq_X5_readWork_150 (m := 0) (by decide) (fun x149 hx149 => ?_)
              refine ex_il oq_X5_readWork_151 gL141_3 ?_
              refine ex_cv oq_X5_readWork_152 (by decide) Th142 (k := 50) (d := 5) (as := [cv_i x149, cv_i x140]) (stk := [cv_i x101, cv_r (b + 11)]) rfl rfl rfl rfl rfl rfl ⟨rfl, rfl⟩ (R := fun o => ∃ (x : Int32) (hb : cv_H), o = (some (cv_i x), hb) ∧ cw_T G hb ∧ cw_Fr cw_Ds cw_sh kk_X5_readNumber_1.2.2.2.2.2.1 h142 hb ∧ zCr t n hb x (zbd (.inr (zx t n q2)) (zn t n x149.toInt x140.toInt))) (ct_readNumber (t := t) (n := n) (fun i => by rw [ht, ← hA _ Fh142]) (fun i hi => by rw [hB _ Fh142]; exact hwd i hi) hn9 Th142 Sh142 x149 x140 (by omega) (by omega) (fun x hb b1 b2 b3 => ⟨x, hb, rfl, b1, b2, b3⟩)) (fun o ho => ?_)
              obtain ⟨x150, h151, rfl, Th151, Ch151, dx150⟩ := ho
              show cw_X _ _ _ _ _ [cv_i x150, cv_i x101, cv_r (b + 11)] h151
              obtain ⟨z3, y3, wx150, Sh151⟩ : ∃ z, (zn t n x149.toInt x140.toInt) (zx t n q2) = z ∧ x150.toInt = zvl z ∧ zCs t n (zst z) h151 := ⟨_, rfl, zCr_i dx150⟩
              clear dx150
              have Fh151 : cw_Fr cw_Ds cw_sh kk_X5_readWork.2.2.2.2.2.1 h0 h151 := cw_Fr_tr Fh142 (cw_Fr_mono (by decide +kernel) Ch151)
              have eh151_b_14 : ri_at h151 b 14 = (l.length : Int) := (ri_frf Ch151 (k := b) (d := 4) hb4 rfl (by decide +kernel)).trans eh142_b_14
              clear eh142_b_14
              have n3 := zvl_m y3
              rw [hx149] at y3 n3
              refine ex_go oq_X5_readWork_155 (t := 159) rfl rfl ?_
              refine ex_iw1 oq_X5_readWork_159 Th151 (k := (b + 11)) (d := 38) (j := l.length) hkb11 rfl (by omega) (by omega) ⟨(cw_i32 _).1, (cw_i32 _).2⟩ (fun h152 Th152 wh152 => ?_)
              have Fh152 : cw_Fr cw_Ds cw_sh kk_X5_readWork.2.2.2.2.2.1 h0 h152 := cw_Fr_tr Fh151 (cw_Fr_wrr wh152 (k := (b + 11)) (d := 38) hkb11 rfl (by decide +kernel))
              have eh152_b_14 : ri_at h152 b 14 = (l.length : Int) := (ri_ne wh152 (.inl (cw_kne (k := b) (d := 4) (k' := (b + 11)) (d' := 38) hb4 hkb11 (by decide)))).trans eh151_b_14
              clear eh151_b_14
              have Sh152 := zCs_wr (d := 38) (k := (b + 11)) wh152 hkb11 Sh151 (.inl ⟨by decide, by decide⟩)
              refine ex_al oq_X5_readWork_160 gL141_0 ?_
              refine ex_gf oq_X5_readWork_161 Th152 (k := 50) (d := 5) rfl rfl ((hPL _ Fh152).1) ?_
              refine ex_il oq_X5_readWork_164 gL141_1 ?_
              refine ex_ic oq_X5_readWork_165 (m := 1) (by decide) (fun x153 hx153 => ?_)
              refine ex_add oq_X5_readWork_166 (by omega) (fun x154 hx154 => ?_)
              refine ex_pfi oq_X5_readWork_167 Th152 (k := b) (d := 4) hb4 rfl rfl (by omega) (by omega) (fun h155 Th155 wh155 => ?_)
              have Fh155 : cw_Fr cw_Ds cw_sh kk_X5_readWork.2.2.2.2.2.1 h0 h155 := cw_Fr_tr Fh152 (cw_Fr_wrf wh155 (k := b) (d := 4) hb4 rfl (by decide +kernel))
              have eh155_b_14 : ri_at h155 b 14 = x154.toInt := ri_self wh155
              have Sh155 := zCs_wr (d := 4) (k := b) wh155 hb4 Sh152 (.inl ⟨by decide, by decide⟩)
              rw [show x140.toInt = zmo (zwk (zk t n q2) (zw t n q2)) from by rw [← zkw]; omega] at y3
              have fin : zst (zwl t n l p) = (zst z3) ∧ ∀ v q, zwl t n l p = .inr (v, q) → v = v1 := by
                unfold zwl
                rw [if_neg (by omega), zb2_r y1, zb2_r y2, if_neg (by omega), if_pos (by omega)]
                rw [y3]
                rcases z3 with e3 | ⟨v3, q3⟩
                · exact ⟨rfl, fun v q h => by first | (cases h; done) | trivial⟩
                · rw [zb2_r rfl]
                  exact ⟨rfl, fun v q h => by first | (cases h; done) | (cases h; rfl) | trivial⟩
              exact ex_retv oq_X5_readWork_170 rfl (hQ h155 Th155 Fh155 ⟨by rw [fin.1]; exact Sh155, fun v q h => ⟨by omega, by rw [fin.2 v q h]; exact zNm_end wh109 (zNm_eq hl (fun i => ((ri_frr Ch108 (k := (b + 8)) (d := 35) hkb8 rfl (by decide +kernel)).trans (ri_frr Ch106 (k := (b + 8)) (d := 35) hkb8 rfl (by decide +kernel))))) (fun i => ((ri_ne wh155 (.inl (cw_kne (k := (b + 8)) (d := 35) (k' := b) (d' := 4) hkb8 hb4 (by decide)))).trans ((ri_ne wh152 (.inl (cw_kne (k := (b + 8)) (d := 35) (k' := (b + 11)) (d' := 38) hkb8 hkb11 (by decide)))).trans ((ri_frr Ch151 (k := (b + 8)) (d := 35) hkb8 rfl (by decide +kernel)).trans ((ri_ne wh142 (.inl (cw_kne (k := (b + 8)) (d := 35) (k' := (b + 10)) (d' := 37) hkb8 hkb10 (by decide)))).trans ((ri_frr Ch139 (k := (b + 8)) (d := 35) hkb8 rfl (by decide +kernel)).trans ((ri_ne wh114 (.inl (cw_kne (k := (b + 8)) (d := 35) (k' := (b + 9)) (d' := 36) hkb8 hkb9 (by decide)))).trans (ri_frr Ch113 (k := (b + 8)) (d := 35) hkb8 rfl (by decide +kernel))))))))) (wx107)⟩⟩)
          · refine ex_al oq_X5_readWork_108 gL136_0 ?_
            refine ex_ic oq_X5_readWork_109 (m := 1) (by decide) (fun x156 hx156 => ?_)
            refine ex_cv oq_X5_readWork_110 (by decide) Th114 (k := 50) (d := 5) (as := [cv_i x156]) (stk := []) rfl rfl rfl rfl rfl rfl ⟨rfl, rfl⟩ (R := fun o => ∃ (x : Int32) (hb : cv_H), o = (some (cv_i x), hb) ∧ cw_T G hb ∧ cw_Fr cw_Ds cw_sh kk_X5_fail.2.2.2.2.2.1 h114 hb ∧ x.toInt = 0 ∧ zCs t n (.inl (1, za t n q2)) hb) (ct_failP (t := t) (n := n) (p := q2) Th114 Sh114 x156 hx156 (by decide) (fun x hb b1 b2 b3 b4 => ⟨x, hb, rfl, b1, b2, b3, b4⟩)) (fun o ho => ?_)
            obtain ⟨x157, h158, rfl, Th158, Ch158, zh158, Sh158⟩ := ho
            show cw_X _ _ _ _ _ [cv_i x157] h158
            have Fh158 : cw_Fr cw_Ds cw_sh kk_X5_readWork.2.2.2.2.2.1 h0 h158 := cw_Fr_tr Fh114 (cw_Fr_mono (by decide +kernel) Ch158)
            have eh158_b_14 : ri_at h158 b 14 = (l.length : Int) := (ri_frf Ch158 (k := b) (d := 4) hb4 rfl (by decide +kernel)).trans eh114_b_14
            clear eh114_b_14
            refine ex_pop oq_X5_readWork_113 rfl ?_
            have fin : zst (zwl t n l p) = (.inl (1, za t n q2)) ∧ ∀ v q, zwl t n l p = .inr (v, q) → True := by
              unfold zwl
              rw [if_neg (by omega), zb2_r y1, zb2_r y2, if_pos (by omega)]
              exact ⟨rfl, fun v q h => by first | (cases h; done) | (cases h; rfl) | trivial⟩
            exact ex_retv oq_X5_readWork_114 rfl (hQ h158 Th158 Fh158 ⟨by rw [fin.1]; exact Sh158, fun v q h => (zst_no fin.1 h).elim⟩)
    · refine ex_al oq_X5_readWork_18 gL102_0 ?_
      refine ex_ic oq_X5_readWork_19 (m := 2) (by decide) (fun x159 hx159 => ?_)
      refine ex_cv oq_X5_readWork_20 (by decide) hT (k := 50) (d := 5) (as := [cv_i x159]) (stk := []) rfl rfl rfl rfl rfl rfl ⟨rfl, rfl⟩ (R := fun o => ∃ (x : Int32) (hb : cv_H), o = (some (cv_i x), hb) ∧ cw_T G hb ∧ cw_Fr cw_Ds cw_sh kk_X5_fail.2.2.2.2.2.1 h0 hb ∧ x.toInt = 0 ∧ zCs t n (.inl (2, za t n p)) hb) (ct_failP (t := t) (n := n) (p := p) hT hS x159 hx159 (by decide) (fun x hb b1 b2 b3 b4 => ⟨x, hb, rfl, b1, b2, b3, b4⟩)) (fun o ho => ?_)
      obtain ⟨x160, h161, rfl, Th161, Ch161, zh161, Sh161⟩ := ho
      show cw_X _ _ _ _ _ [cv_i x160] h161
      have Fh161 : cw_Fr cw_Ds cw_sh kk_X5_readWork.2.2.2.2.2.1 h0 h161 := cw_Fr_tr Fh0 (cw_Fr_mono (by decide +kernel) Ch161)
      have eh161_b_14 : ri_at h161 b 14 = (l.length : Int) := (ri_frf Ch161 (k := b) (d := 4) hb4 rfl (by decide +kernel)).trans hc
      refine ex_pop oq_X5_readWork_23 rfl ?_
      have fin : zst (zwl t n l p) = (.inl (2, za t n p)) ∧ ∀ v q, zwl t n l p = .inr (v, q) → True := by
        unfold zwl
        rw [if_pos (by omega)]
        exact ⟨rfl, fun v q h => by first | (cases h; done) | (cases h; rfl) | trivial⟩
      exact ex_retv oq_X5_readWork_24 rfl (hQ h161 Th161 Fh161 ⟨by rw [fin.1]; exact Sh161, fun v q h => (zst_no fin.1 h).elim⟩)
theorem zns_S {n : Nat} {lo hi : Int} {k : Nat} {S : (Int × Nat) ⊕ Nat} : zst (zbd S (zns t n lo hi (k + 1))) = zst (zbd (zst (zbd S (zn t n lo hi))) (zns t n lo hi k)) := by
  rcases S with e | q
  · rfl
  · show zst (zns t n lo hi (k + 1) q) = zst (zbd (zst (zn t n lo hi q)) (zns t n lo hi k))
    rw [zns]
    rcases zn t n lo hi q with e | ⟨v, q'⟩
    · rfl
    · show zst (match zns t n lo hi k q' with | .inl e => .inl e | .inr (vs, q'') => .inr (v :: vs, q'')) = zst (zns t n lo hi k q')
      rcases zns t n lo hi k q' with e | ⟨vs, q''⟩ <;> rfl
theorem znS_0 {n : Nat} {lo hi : Int} {S : (Int × Nat) ⊕ Nat} : zst (zbd S (zns t n lo hi 0)) = S := by
  rcases S with e | q <;> rfl
theorem oq_X5_readGround_0 : cw_ho 65 0 (.aload_n 0) 1 0 0 0 := rfl
theorem oq_X5_readGround_1 : cw_ho 65 1 (.getfield 42) 3 5 3 2 := rfl
theorem oq_X5_readGround_4 : cw_ho 65 4 (.ifCond .eq 10) 3 0 0 0 := rfl
theorem oq_X5_readGround_7 : cw_ho 65 7 (.aload_n 0) 1 0 0 0 := rfl
theorem oq_X5_readGround_8 : cw_ho 65 8 (.iconst 3) 1 0 0 0 := rfl
theorem oq_X5_readGround_9 : cw_ho 65 9 (.invokevirtual 74) 3 61 1 5 := rfl
theorem oq_X5_readGround_12 : cw_ho 65 12 (.pop) 1 0 0 0 := rfl
theorem oq_X5_readGround_13 : cw_ho 65 13 (.return_) 1 0 0 0 := rfl
theorem oq_X5_readGround_14 : cw_ho 65 14 (.aload_n 0) 1 0 0 0 := rfl
theorem oq_X5_readGround_15 : cw_ho 65 15 (.iconst 1) 1 0 0 0 := rfl
theorem oq_X5_readGround_16 : cw_ho 65 16 (.putfield 42) 3 5 3 2 := rfl
theorem oq_X5_readGround_19 : cw_ho 65 19 (.aload_n 0) 1 0 0 0 := rfl
theorem oq_X5_readGround_20 : cw_ho 65 20 (.getfield 20) 3 5 0 4 := rfl
theorem oq_X5_readGround_23 : cw_ho 65 23 (.invokevirtual 82) 3 78 0 6 := rfl
theorem oq_X5_readGround_26 : cw_ho 65 26 (.iconst 0) 1 0 0 0 := rfl
theorem oq_X5_readGround_27 : cw_ho 65 27 (.istore_n 1) 1 0 0 0 := rfl
theorem oq_X5_readGround_28 : cw_ho 65 28 (.iload_n 1) 1 0 0 0 := rfl
theorem oq_X5_readGround_29 : cw_ho 65 29 (.bipush 12) 2 0 0 0 := rfl
theorem oq_X5_readGround_31 : cw_ho 65 31 (.if_icmp .ge 25) 3 0 0 0 := rfl
theorem oq_X5_readGround_34 : cw_ho 65 34 (.aload_n 0) 1 0 0 0 := rfl
theorem oq_X5_readGround_35 : cw_ho 65 35 (.getfield 33) 3 5 2 4 := rfl
theorem oq_X5_readGround_38 : cw_ho 65 38 (.getfield 89) 3 4 0 4 := rfl
theorem oq_X5_readGround_41 : cw_ho 65 41 (.iload_n 1) 1 0 0 0 := rfl
theorem oq_X5_readGround_42 : cw_ho 65 42 (.aload_n 0) 1 0 0 0 := rfl
theorem oq_X5_readGround_43 : cw_ho 65 43 (.iconst 1) 1 0 0 0 := rfl
theorem oq_X5_readGround_44 : cw_ho 65 44 (.bipush 99) 2 0 0 0 := rfl
theorem oq_X5_readGround_46 : cw_ho 65 46 (.invokevirtual 93) 3 63 2 5 := rfl
theorem oq_X5_readGround_49 : cw_ho 65 49 (.iastore) 1 0 0 0 := rfl
theorem oq_X5_readGround_50 : cw_ho 65 50 (.iinc 1 1) 3 0 0 0 := rfl
theorem oq_X5_readGround_53 : cw_ho 65 53 (.goto (-25)) 3 0 0 0 := rfl
theorem oq_X5_readGround_56 : cw_ho 65 56 (.return_) 1 0 0 0 := rfl
end TZ
