/-! ===== methods walked by hand: what a gate has ===== -/
section SPY6
variable {G c kd s : Int} {X : cv_X} {Q : cv_O → Prop}
theorem oq_X12_hasRead_0 : cw_ho 180 0 (.iload_n 2) 1 0 0 0 := rfl
theorem oq_X12_hasRead_1 : cw_ho 180 1 (.tableswitch 212 0 6 #[43, 49, 92, 145, 163, 181, 206]) 43 0 0 0 := rfl
theorem oq_X12_hasRead_44 : cw_ho 180 44 (.aload_n 0) 1 0 0 0 := rfl
theorem oq_X12_hasRead_45 : cw_ho 180 45 (.iload_n 1) 1 0 0 0 := rfl
theorem oq_X12_hasRead_46 : cw_ho 180 46 (.invokevirtual 278) 3 181 1 12 := rfl
theorem oq_X12_hasRead_49 : cw_ho 180 49 (.ireturn) 1 0 0 0 := rfl
theorem oq_X12_hasRead_50 : cw_ho 180 50 (.aload_n 0) 1 0 0 0 := rfl
theorem oq_X12_hasRead_51 : cw_ho 180 51 (.bipush 12) 2 0 0 0 := rfl
theorem oq_X12_hasRead_53 : cw_ho 180 53 (.bipush 60) 2 0 0 0 := rfl
theorem oq_X12_hasRead_55 : cw_ho 180 55 (.invokevirtual 193) 3 168 2 12 := rfl
theorem oq_X12_hasRead_58 : cw_ho 180 58 (.ifCond .ne 5) 3 0 0 0 := rfl
theorem oq_X12_hasRead_61 : cw_ho 180 61 (.iconst 0) 1 0 0 0 := rfl
theorem oq_X12_hasRead_62 : cw_ho 180 62 (.ireturn) 1 0 0 0 := rfl
theorem oq_X12_hasRead_63 : cw_ho 180 63 (.aload_n 0) 1 0 0 0 := rfl
theorem oq_X12_hasRead_64 : cw_ho 180 64 (.getfield 36) 3 12 26 4 := rfl
theorem oq_X12_hasRead_67 : cw_ho 180 67 (.iload_n 1) 1 0 0 0 := rfl
theorem oq_X12_hasRead_68 : cw_ho 180 68 (.bipush 7) 2 0 0 0 := rfl
theorem oq_X12_hasRead_70 : cw_ho 180 70 (.iadd) 1 0 0 0 := rfl
theorem oq_X12_hasRead_71 : cw_ho 180 71 (.aload_n 0) 1 0 0 0 := rfl
theorem oq_X12_hasRead_72 : cw_ho 180 72 (.getfield 184) 3 12 11 0 := rfl
theorem oq_X12_hasRead_75 : cw_ho 180 75 (.iastore) 1 0 0 0 := rfl
theorem oq_X12_hasRead_76 : cw_ho 180 76 (.aload_n 0) 1 0 0 0 := rfl
theorem oq_X12_hasRead_77 : cw_ho 180 77 (.aload_n 0) 1 0 0 0 := rfl
theorem oq_X12_hasRead_78 : cw_ho 180 78 (.getfield 36) 3 12 26 4 := rfl
theorem oq_X12_hasRead_81 : cw_ho 180 81 (.iload_n 1) 1 0 0 0 := rfl
theorem oq_X12_hasRead_82 : cw_ho 180 82 (.bipush 8) 2 0 0 0 := rfl
theorem oq_X12_hasRead_84 : cw_ho 180 84 (.iadd) 1 0 0 0 := rfl
theorem oq_X12_hasRead_85 : cw_ho 180 85 (.iconst 1) 1 0 0 0 := rfl
theorem oq_X12_hasRead_86 : cw_ho 180 86 (.iconst 3) 1 0 0 0 := rfl
theorem oq_X12_hasRead_87 : cw_ho 180 87 (.bipush 14) 2 0 0 0 := rfl
theorem oq_X12_hasRead_89 : cw_ho 180 89 (.invokevirtual 256) 3 170 5 12 := rfl
theorem oq_X12_hasRead_92 : cw_ho 180 92 (.ireturn) 1 0 0 0 := rfl
theorem oq_X12_hasRead_93 : cw_ho 180 93 (.aload_n 0) 1 0 0 0 := rfl
theorem oq_X12_hasRead_94 : cw_ho 180 94 (.bipush 28) 2 0 0 0 := rfl
theorem oq_X12_hasRead_96 : cw_ho 180 96 (.invokevirtual 281) 3 166 1 12 := rfl
theorem oq_X12_hasRead_99 : cw_ho 180 99 (.ifCond .ne 18) 3 0 0 0 := rfl
theorem oq_X12_hasRead_102 : cw_ho 180 102 (.aload_n 0) 1 0 0 0 := rfl
theorem oq_X12_hasRead_103 : cw_ho 180 103 (.bipush 29) 2 0 0 0 := rfl
theorem oq_X12_hasRead_105 : cw_ho 180 105 (.invokevirtual 281) 3 166 1 12 := rfl
theorem oq_X12_hasRead_108 : cw_ho 180 108 (.ifCond .ne 9) 3 0 0 0 := rfl
theorem oq_X12_hasRead_111 : cw_ho 180 111 (.aload_n 0) 1 0 0 0 := rfl
theorem oq_X12_hasRead_112 : cw_ho 180 112 (.iconst 1) 1 0 0 0 := rfl
theorem oq_X12_hasRead_113 : cw_ho 180 113 (.invokevirtual 177) 3 159 1 12 := rfl
theorem oq_X12_hasRead_116 : cw_ho 180 116 (.ireturn) 1 0 0 0 := rfl
theorem oq_X12_hasRead_117 : cw_ho 180 117 (.aload_n 0) 1 0 0 0 := rfl
theorem oq_X12_hasRead_118 : cw_ho 180 118 (.getfield 36) 3 12 26 4 := rfl
theorem oq_X12_hasRead_121 : cw_ho 180 121 (.iload_n 1) 1 0 0 0 := rfl
theorem oq_X12_hasRead_122 : cw_ho 180 122 (.bipush 9) 2 0 0 0 := rfl
theorem oq_X12_hasRead_124 : cw_ho 180 124 (.iadd) 1 0 0 0 := rfl
theorem oq_X12_hasRead_125 : cw_ho 180 125 (.aload_n 0) 1 0 0 0 := rfl
theorem oq_X12_hasRead_126 : cw_ho 180 126 (.bipush 28) 2 0 0 0 := rfl
theorem oq_X12_hasRead_128 : cw_ho 180 128 (.invokevirtual 281) 3 166 1 12 := rfl
theorem oq_X12_hasRead_131 : cw_ho 180 131 (.ifCond .eq 7) 3 0 0 0 := rfl
theorem oq_X12_hasRead_134 : cw_ho 180 134 (.iconst 1) 1 0 0 0 := rfl
theorem oq_X12_hasRead_135 : cw_ho 180 135 (.goto 4) 3 0 0 0 := rfl
theorem oq_X12_hasRead_138 : cw_ho 180 138 (.iconst 2) 1 0 0 0 := rfl
theorem oq_X12_hasRead_139 : cw_ho 180 139 (.iastore) 1 0 0 0 := rfl
theorem oq_X12_hasRead_140 : cw_ho 180 140 (.aload_n 0) 1 0 0 0 := rfl
theorem oq_X12_hasRead_141 : cw_ho 180 141 (.invokevirtual 187) 3 163 0 12 := rfl
theorem oq_X12_hasRead_144 : cw_ho 180 144 (.iconst 1) 1 0 0 0 := rfl
theorem oq_X12_hasRead_145 : cw_ho 180 145 (.ireturn) 1 0 0 0 := rfl
theorem oq_X12_hasRead_146 : cw_ho 180 146 (.aload_n 0) 1 0 0 0 := rfl
theorem oq_X12_hasRead_147 : cw_ho 180 147 (.aload_n 0) 1 0 0 0 := rfl
theorem oq_X12_hasRead_148 : cw_ho 180 148 (.getfield 36) 3 12 26 4 := rfl
theorem oq_X12_hasRead_151 : cw_ho 180 151 (.iload_n 1) 1 0 0 0 := rfl
theorem oq_X12_hasRead_152 : cw_ho 180 152 (.bipush 10) 2 0 0 0 := rfl
theorem oq_X12_hasRead_154 : cw_ho 180 154 (.iadd) 1 0 0 0 := rfl
theorem oq_X12_hasRead_155 : cw_ho 180 155 (.iconst 2) 1 0 0 0 := rfl
theorem oq_X12_hasRead_156 : cw_ho 180 156 (.iconst 0) 1 0 0 0 := rfl
theorem oq_X12_hasRead_157 : cw_ho 180 157 (.sipush 9999) 3 0 0 0 := rfl
theorem oq_X12_hasRead_160 : cw_ho 180 160 (.invokevirtual 256) 3 170 5 12 := rfl
theorem oq_X12_hasRead_163 : cw_ho 180 163 (.ireturn) 1 0 0 0 := rfl
theorem oq_X12_hasRead_164 : cw_ho 180 164 (.aload_n 0) 1 0 0 0 := rfl
theorem oq_X12_hasRead_165 : cw_ho 180 165 (.aload_n 0) 1 0 0 0 := rfl
theorem oq_X12_hasRead_166 : cw_ho 180 166 (.getfield 36) 3 12 26 4 := rfl
theorem oq_X12_hasRead_169 : cw_ho 180 169 (.iload_n 1) 1 0 0 0 := rfl
theorem oq_X12_hasRead_170 : cw_ho 180 170 (.bipush 13) 2 0 0 0 := rfl
theorem oq_X12_hasRead_172 : cw_ho 180 172 (.iadd) 1 0 0 0 := rfl
theorem oq_X12_hasRead_173 : cw_ho 180 173 (.iconst 1) 1 0 0 0 := rfl
theorem oq_X12_hasRead_174 : cw_ho 180 174 (.iconst 0) 1 0 0 0 := rfl
theorem oq_X12_hasRead_175 : cw_ho 180 175 (.sipush 9999) 3 0 0 0 := rfl
theorem oq_X12_hasRead_178 : cw_ho 180 178 (.invokevirtual 256) 3 170 5 12 := rfl
theorem oq_X12_hasRead_181 : cw_ho 180 181 (.ireturn) 1 0 0 0 := rfl
theorem oq_X12_hasRead_182 : cw_ho 180 182 (.aload_n 0) 1 0 0 0 := rfl
theorem oq_X12_hasRead_183 : cw_ho 180 183 (.aload_n 0) 1 0 0 0 := rfl
theorem oq_X12_hasRead_184 : cw_ho 180 184 (.getfield 39) 3 12 27 4 := rfl
theorem oq_X12_hasRead_187 : cw_ho 180 187 (.bipush 36) 2 0 0 0 := rfl
theorem oq_X12_hasRead_189 : cw_ho 180 189 (.bipush 9) 2 0 0 0 := rfl
theorem oq_X12_hasRead_191 : cw_ho 180 191 (.aload_n 0) 1 0 0 0 := rfl
theorem oq_X12_hasRead_192 : cw_ho 180 192 (.getfield 197) 3 12 16 0 := rfl
theorem oq_X12_hasRead_195 : cw_ho 180 195 (.imul) 1 0 0 0 := rfl
theorem oq_X12_hasRead_196 : cw_ho 180 196 (.iadd) 1 0 0 0 := rfl
theorem oq_X12_hasRead_197 : cw_ho 180 197 (.bipush 9) 2 0 0 0 := rfl
theorem oq_X12_hasRead_199 : cw_ho 180 199 (.iconst 0) 1 0 0 0 := rfl
theorem oq_X12_hasRead_200 : cw_ho 180 200 (.sipush 200) 3 0 0 0 := rfl
theorem oq_X12_hasRead_203 : cw_ho 180 203 (.invokevirtual 256) 3 170 5 12 := rfl
theorem oq_X12_hasRead_206 : cw_ho 180 206 (.ireturn) 1 0 0 0 := rfl
theorem oq_X12_hasRead_207 : cw_ho 180 207 (.aload_n 0) 1 0 0 0 := rfl
theorem oq_X12_hasRead_208 : cw_ho 180 208 (.iload_n 1) 1 0 0 0 := rfl
theorem oq_X12_hasRead_209 : cw_ho 180 209 (.invokevirtual 284) 3 182 1 12 := rfl
theorem oq_X12_hasRead_212 : cw_ho 180 212 (.ireturn) 1 0 0 0 := rfl
theorem oq_X12_hasRead_213 : cw_ho 180 213 (.aload_n 0) 1 0 0 0 := rfl
theorem oq_X12_hasRead_214 : cw_ho 180 214 (.aload_n 0) 1 0 0 0 := rfl
theorem oq_X12_hasRead_215 : cw_ho 180 215 (.getfield 36) 3 12 26 4 := rfl
theorem oq_X12_hasRead_218 : cw_ho 180 218 (.iload_n 1) 1 0 0 0 := rfl
theorem oq_X12_hasRead_219 : cw_ho 180 219 (.bipush 12) 2 0 0 0 := rfl
theorem oq_X12_hasRead_221 : cw_ho 180 221 (.iadd) 1 0 0 0 := rfl
theorem oq_X12_hasRead_222 : cw_ho 180 222 (.iconst 1) 1 0 0 0 := rfl
theorem oq_X12_hasRead_223 : cw_ho 180 223 (.iconst 0) 1 0 0 0 := rfl
theorem oq_X12_hasRead_224 : cw_ho 180 224 (.sipush 200) 3 0 0 0 := rfl
theorem oq_X12_hasRead_227 : cw_ho 180 227 (.invokevirtual 256) 3 170 5 12 := rfl
theorem oq_X12_hasRead_230 : cw_ho 180 230 (.ireturn) 1 0 0 0 := rfl
set_option maxHeartbeats 6000000 in
theorem sp_hasRead {h : cv_H} (hX : cw_Xok X) (hT : cw_T G h) (Ph : cw_PQ G c kd s h) (hI : rd_I h) (w : Int32) (g : Int32) (hg : g.toInt = 64 + 16 * ri_at h 111 16) (hu : 0 ≤ ri_at h 111 16 ∧ ri_at h 111 16 ≤ 3) (hB : ga_B h g.toInt.toNat) (hQ : ∀ (x : Int32) h', cw_T G h' → cw_PQ G c kd s h' → cw_Fr cw_Ds cw_sh mk_gt h h' → (x.toInt = 0 ∨ x.toInt = 1 ∧ rd_I h' ∧ ga_B h' g.toInt.toNat) → Q (some (cv_i x), h')) : cw_X X 180 Q 0 (cv_ent 0 [cv_r 111, cv_i g, cv_i w]) [] h := by
  have Fh : cw_Fr cw_Ds cw_sh mk_gt h h := cw_Fr_refl
  refine ex_il oq_X12_hasRead_0 rfl ?_
  refine ex_tsw oq_X12_hasRead_1 rfl (fun c1 => ⟨rfl, ?_⟩) (fun i hi c1 => ?_)
  · show cw_X _ _ _ 213 _ _ _
    refine ex_al oq_X12_hasRead_213 rfl ?_
    refine ex_al oq_X12_hasRead_214 rfl ?_
    refine ex_gf oq_X12_hasRead_215 hT (k := 111) (d := 12) rfl rfl (fr_gateHas hT) ?_
    refine ex_il oq_X12_hasRead_218 rfl ?_
    refine ex_bi oq_X12_hasRead_219 (m := 12) (by decide) (fun x2 hx2 => ?_)
    refine ex_add oq_X12_hasRead_221 (by omega) (fun x3 hx3 => ?_)
    refine ex_ic oq_X12_hasRead_222 (m := 1) (by decide) (fun x4 hx4 => ?_)
    refine ex_ic oq_X12_hasRead_223 (m := 0) (by decide) (fun x5 hx5 => ?_)
    refine ex_si oq_X12_hasRead_224 (m := 200) (by decide) (fun x6 hx6 => ?_)
    refine ex_cv oq_X12_hasRead_227 (by decide) hT (k := 111) (d := 12) (as := [cv_r 119, cv_i x3, cv_i x4, cv_i x5, cv_i x6]) (stk := []) rfl rfl rfl rfl rfl rfl ⟨rfl, rfl⟩ (R := fun o => ∃ (x : Int32) (hb : cv_H), o = (some (cv_i x), hb) ∧ cw_T G hb ∧ cw_PQ G c kd s hb ∧ cw_Fr cw_Ds cw_sh mk_gt h hb ∧ (x.toInt = 0 ∨ x.toInt = 1 ∧ rd_I hb ∧ ga_B hb g.toInt.toNat)) (sp_numbersG (cw_Xok_no2 hX) hT Ph hI g.toInt.toNat (ri_at h 111 16).toNat (by omega) (by omega) hB (by omega) x3 x4 x5 x6 (by omega) (by omega) (by omega) (fun x h a0 a1 a2 a3 => ⟨x, h, rfl, a0, a1, a2, a3⟩)) (fun o ho => ?_)
    obtain ⟨x8, h7, rfl, Th7, Ph7, Ch7, dx8⟩ := ho
    show cw_X _ _ _ _ _ [cv_i x8] h7
    have Fh7 : cw_Fr cw_Ds cw_sh mk_gt h h7 := cw_Fr_tr Fh (cw_Fr_mono (by decide +kernel) Ch7)
    have vx8 : x8.toInt = 0 ∨ x8.toInt = 1 := dx8.elim .inl (fun q => .inr q.1)
    exact ex_retb oq_X12_hasRead_230 rfl (by omega) (by omega) (hQ x8 h7 Th7 Ph7 Fh7 dx8)
  · match i, hi, c1 with
    | 0, _, c1 =>
      refine ⟨rfl, ?_⟩
      show cw_X _ _ _ 44 _ _ _
      refine ex_al oq_X12_hasRead_44 rfl ?_
      refine ex_il oq_X12_hasRead_45 rfl ?_
      refine ex_cv oq_X12_hasRead_46 (by decide) hT (k := 111) (d := 12) (as := [cv_i g]) (stk := []) rfl rfl rfl rfl rfl rfl ⟨rfl, rfl⟩ (R := fun o => ∃ (x : Int32) (hb : cv_H), o = (some (cv_i x), hb) ∧ cw_T G hb ∧ cw_PQ G c kd s hb ∧ cw_Fr cw_Ds cw_sh mk_gt h hb ∧ (x.toInt = 0 ∨ x.toInt = 1 ∧ rd_I hb ∧ ga_B hb g.toInt.toNat)) (sp_hooksRead (cw_Xok_no2 hX) hT Ph hI g (by omega) (by omega) hB (fun x h a0 a1 a2 a3 => ⟨x, h, rfl, a0, a1, a2, a3⟩)) (fun o ho => ?_)
      obtain ⟨x10, h9, rfl, Th9, Ph9, Ch9, dx10⟩ := ho
      show cw_X _ _ _ _ _ [cv_i x10] h9
      have Fh9 : cw_Fr cw_Ds cw_sh mk_gt h h9 := cw_Fr_tr Fh (cw_Fr_mono (by decide +kernel) Ch9)
      have vx10 : x10.toInt = 0 ∨ x10.toInt = 1 := dx10.elim .inl (fun q => .inr q.1)
      exact ex_retb oq_X12_hasRead_49 rfl (by omega) (by omega) (hQ x10 h9 Th9 Ph9 Fh9 dx10)
    | 1, _, c1 =>
      refine ⟨rfl, ?_⟩
      show cw_X _ _ _ 50 _ _ _
      refine ex_al oq_X12_hasRead_50 rfl ?_
      refine ex_bi oq_X12_hasRead_51 (m := 12) (by decide) (fun x11 hx11 => ?_)
      refine ex_bi oq_X12_hasRead_53 (m := 60) (by decide) (fun x12 hx12 => ?_)
      refine ex_cv oq_X12_hasRead_55 (by decide) hT (k := 111) (d := 12) (as := [cv_i x11, cv_i x12]) (stk := []) rfl rfl rfl rfl rfl rfl ⟨rfl, rfl⟩ (R := fun o => ∃ (x : Int32) (hb : cv_H), o = (some (cv_i x), hb) ∧ cw_T G hb ∧ cw_PQ G c kd s hb ∧ cw_Fr cw_Ds cw_sh kk_X12_number.2.2.2.2.2.1 h hb ∧ 0 ≤ x.toInt ∧ x.toInt ≤ 1 ∧ (x.toInt = 0 ∨ x11.toInt ≤ ri_at hb 111 11 ∧ ri_at hb 111 11 ≤ x12.toInt)) (sp_number (cw_Xok_no2 hX) hT Ph x11 x12 (fun x h a0 a1 a2 a3 a4 a5 => ⟨x, h, rfl, a0, a1, a2, a3, a4, a5⟩)) (fun o ho => ?_)
      obtain ⟨x14, h13, rfl, Th13, Ph13, Ch13, lx14, ux14, dx14⟩ := ho
      show cw_X _ _ _ _ _ [cv_i x14] h13
      have Fh13 : cw_Fr cw_Ds cw_sh mk_gt h h13 := cw_Fr_tr Fh (cw_Fr_mono (by decide +kernel) Ch13)
      have eh13_16 : ri_at h13 111 16 = ri_at h 111 16 := ri_frf Ch13 (d := 12) rfl rfl (by decide +kernel)
      have eh13_18 : ri_at h13 111 18 = ri_at h 111 18 := ri_frf Ch13 (d := 12) rfl rfl (by decide +kernel)
      have eh13_19 : ri_at h13 111 19 = ri_at h 111 19 := ri_frf Ch13 (d := 12) rfl rfl (by decide +kernel)
      have eh13_40 : ri_at h13 111 40 = ri_at h 111 40 := ri_frf Ch13 (d := 12) rfl rfl (by decide +kernel)
      have rgh13 : ∀ i, ri_at h13 119 i = ri_at h 119 i := fun i => ri_frq Ch13 (d := 58) rfl rfl (by decide) (by decide +kernel)
      have rch13 : ∀ i, ri_at h13 124 i = ri_at h 124 i := fun i => ri_frq Ch13 (d := 63) rfl rfl (by decide) (by decide +kernel)
      have rth13 : ∀ i, ri_at h13 117 i = ri_at h 117 i := fun i => ri_frr Ch13 (d := 56) rfl rfl (by decide +kernel)
      have rlh13 : ∀ i, ri_at h13 116 i = ri_at h 116 i := fun i => ri_frr Ch13 (d := 55) rfl rfl (by decide +kernel)
      refine ex_if0 oq_X12_hasRead_58 (t := 63) rfl rfl (fun (c15 : ¬ x14.toInt = 0) => ?_) (fun (c15 : ¬ (¬ x14.toInt = 0)) => ?_)
      · refine ex_al oq_X12_hasRead_63 rfl ?_
        refine ex_gf oq_X12_hasRead_64 Th13 (k := 111) (d := 12) rfl rfl (fr_gateHas Th13) ?_
        refine ex_il oq_X12_hasRead_67 rfl ?_
        refine ex_bi oq_X12_hasRead_68 (m := 7) (by decide) (fun x16 hx16 => ?_)
        refine ex_add oq_X12_hasRead_70 (by omega) (fun x17 hx17 => ?_)
        refine ex_al oq_X12_hasRead_71 rfl ?_
        obtain ⟨x18, ax18, rx18, lx18, ux18⟩ := fi_got Th13
        refine ex_gf oq_X12_hasRead_72 Th13 (k := 111) (d := 12) rfl rfl ax18 ?_
        refine ex_iw oq_X12_hasRead_75 Th13 (k := 119) (d := 58) (j := g.toInt.toNat + 7) rfl rfl (by omega) (by omega) (fun r hr => gh_get hr _ (cw_i32 _)) (fun h19 Th19 wh19 => ?_)
        have Fh19 : cw_Fr cw_Ds cw_sh mk_gt h h19 := cw_Fr_tr Fh13 (cw_Fr_wrr wh19 (k := 119) (d := 58) rfl rfl (by decide +kernel))
        have eh19_16 : ri_at h19 111 16 = ri_at h13 111 16 := ri_ne wh19 (.inl (by decide))
        have eh19_18 : ri_at h19 111 18 = ri_at h13 111 18 := ri_ne wh19 (.inl (by decide))
        have eh19_19 : ri_at h19 111 19 = ri_at h13 111 19 := ri_ne wh19 (.inl (by decide))
        have eh19_40 : ri_at h19 111 40 = ri_at h13 111 40 := ri_ne wh19 (.inl (by decide))
        have eh19_8 : ri_at h19 111 8 = ri_at h13 111 8 := ri_ne wh19 (.inl (by decide))
        have eh19_9 : ri_at h19 111 9 = ri_at h13 111 9 := ri_ne wh19 (.inl (by decide))
        have eh19_11 : ri_at h19 111 11 = ri_at h13 111 11 := ri_ne wh19 (.inl (by decide))
        refine ex_al oq_X12_hasRead_76 rfl ?_
        refine ex_al oq_X12_hasRead_77 rfl ?_
        refine ex_gf oq_X12_hasRead_78 Th19 (k := 111) (d := 12) rfl rfl (fr_gateHas Th19) ?_
        refine ex_il oq_X12_hasRead_81 rfl ?_
        refine ex_bi oq_X12_hasRead_82 (m := 8) (by decide) (fun x20 hx20 => ?_)
        refine ex_add oq_X12_hasRead_84 (by omega) (fun x21 hx21 => ?_)
        refine ex_ic oq_X12_hasRead_85 (m := 1) (by decide) (fun x22 hx22 => ?_)
        refine ex_ic oq_X12_hasRead_86 (m := 3) (by decide) (fun x23 hx23 => ?_)
        refine ex_bi oq_X12_hasRead_87 (m := 14) (by decide) (fun x24 hx24 => ?_)
        have Ph19 : cw_PQ G c kd s h19 := pq_wr2 Ph13 wh19 (by omega)
        have p1h19 : ri_at h19 119 (g.toInt.toNat + 1) = ri_at h 119 (g.toInt.toNat + 1) := ((ri_ne wh19 (.inr (by omega))).trans (rgh13 _))
        have p3h19 : ri_at h19 119 (g.toInt.toNat + 3) = ri_at h 119 (g.toInt.toNat + 3) := ((ri_ne wh19 (.inr (by omega))).trans (rgh13 _))
        have p4h19 : ri_at h19 119 (g.toInt.toNat + 4) = ri_at h 119 (g.toInt.toNat + 4) := ((ri_ne wh19 (.inr (by omega))).trans (rgh13 _))
        have gbh19 : ga_B h19 g.toInt.toNat := by unfold ga_B; rw [p1h19, p3h19, p4h19]; exact hB
        have rdh19 : rd_I h19 := rd_ga hI (by omega) (by omega) (by omega) (by omega) (fun i hi => ((ri_ne wh19 (.inr (by omega))).trans (rgh13 i))) (fun i => ((ri_ne wh19 (.inl (by decide))).trans (rch13 i))) (fun i => ((ri_ne wh19 (.inl (by decide))).trans (rth13 i))) (fun i => ((ri_ne wh19 (.inl (by decide))).trans (rlh13 i)))
        refine ex_cv oq_X12_hasRead_89 (by decide) Th19 (k := 111) (d := 12) (as := [cv_r 119, cv_i x21, cv_i x22, cv_i x23, cv_i x24]) (stk := []) rfl rfl rfl rfl rfl rfl ⟨rfl, rfl⟩ (R := fun o => ∃ (x : Int32) (hb : cv_H), o = (some (cv_i x), hb) ∧ cw_T G hb ∧ cw_PQ G c kd s hb ∧ cw_Fr cw_Ds cw_sh mk_gt h19 hb ∧ (x.toInt = 0 ∨ x.toInt = 1 ∧ rd_I hb ∧ ga_B hb g.toInt.toNat)) (sp_numbersG (cw_Xok_no2 hX) Th19 Ph19 rdh19 g.toInt.toNat (ri_at h 111 16).toNat (by omega) (by omega) gbh19 (by omega) x21 x22 x23 x24 (by omega) (by omega) (by omega) (fun x h a0 a1 a2 a3 => ⟨x, h, rfl, a0, a1, a2, a3⟩)) (fun o ho => ?_)
        obtain ⟨x26, h25, rfl, Th25, Ph25, Ch25, dx26⟩ := ho
        show cw_X _ _ _ _ _ [cv_i x26] h25
        have Fh25 : cw_Fr cw_Ds cw_sh mk_gt h h25 := cw_Fr_tr Fh19 (cw_Fr_mono (by decide +kernel) Ch25)
        have vx26 : x26.toInt = 0 ∨ x26.toInt = 1 := dx26.elim .inl (fun q => .inr q.1)
        exact ex_retb oq_X12_hasRead_92 rfl (by omega) (by omega) (hQ x26 h25 Th25 Ph25 Fh25 dx26)
      · refine ex_ic oq_X12_hasRead_61 (m := 0) (by decide) (fun x27 hx27 => ?_)
        exact ex_retb oq_X12_hasRead_62 rfl (by omega) (by omega) (hQ x27 h13 Th13 Ph13 Fh13 (.inl (by omega)))
    | 2, _, c1 =>
      refine ⟨rfl, ?_⟩
      show cw_X _ _ _ 93 _ _ _
      refine ex_al oq_X12_hasRead_93 rfl ?_
      refine ex_bi oq_X12_hasRead_94 (m := 28) (by decide) (fun x28 hx28 => ?_)
      refine ex_cv oq_X12_hasRead_96 (by decide) hT (k := 111) (d := 12) (as := [cv_i x28]) (stk := []) rfl rfl rfl rfl rfl rfl ⟨rfl, rfl⟩ (R := fun o => ∃ x : Int32, o = (some (cv_i x), h) ∧ (x.toInt = 1 ∧ (ri_at h 111 8 = 1 ∧ ri_at h 111 9 = x28.toInt) ∨ x.toInt = 0 ∧ ¬ (ri_at h 111 8 = 1 ∧ ri_at h 111 9 = x28.toInt))) (sp_isKey hT x28  (fun x hx => ⟨x, rfl, hx⟩)) (fun ox29 hox29 => ?_)
      obtain ⟨x29, rfl, hx29⟩ := hox29
      show cw_X _ _ _ _ _ [cv_i x29] h
      refine ex_if0 oq_X12_hasRead_99 (t := 117) rfl rfl (fun (c30 : ¬ x29.toInt = 0) => ?_) (fun (c30 : ¬ (¬ x29.toInt = 0)) => ?_)
      · refine ex_al oq_X12_hasRead_117 rfl ?_
        refine ex_gf oq_X12_hasRead_118 hT (k := 111) (d := 12) rfl rfl (fr_gateHas hT) ?_
        refine ex_il oq_X12_hasRead_121 rfl ?_
        refine ex_bi oq_X12_hasRead_122 (m := 9) (by decide) (fun x31 hx31 => ?_)
        refine ex_add oq_X12_hasRead_124 (by omega) (fun x32 hx32 => ?_)
        refine ex_al oq_X12_hasRead_125 rfl ?_
        refine ex_bi oq_X12_hasRead_126 (m := 28) (by decide) (fun x33 hx33 => ?_)
        refine ex_cv oq_X12_hasRead_128 (by decide) hT (k := 111) (d := 12) (as := [cv_i x33]) (stk := [cv_i x32, cv_r 119]) rfl rfl rfl rfl rfl rfl ⟨rfl, rfl⟩ (R := fun o => ∃ x : Int32, o = (some (cv_i x), h) ∧ (x.toInt = 1 ∧ (ri_at h 111 8 = 1 ∧ ri_at h 111 9 = x33.toInt) ∨ x.toInt = 0 ∧ ¬ (ri_at h 111 8 = 1 ∧ ri_at h 111 9 = x33.toInt))) (sp_isKey hT x33  (fun x hx => ⟨x, rfl, hx⟩)) (fun ox34 hox34 => ?_)
        obtain ⟨x34, rfl, hx34⟩ := hox34
        show cw_X _ _ _ _ _ [cv_i x34, cv_i x32, cv_r 119] h
        refine ex_if0 oq_X12_hasRead_131 (t := 138) rfl rfl (fun (c35 : x34.toInt = 0) => ?_) (fun (c35 : ¬ (x34.toInt = 0)) => ?_)
        · refine ex_ic oq_X12_hasRead_138 (m := 2) (by decide) (fun x36 hx36 => ?_)
          refine ex_iw oq_X12_hasRead_139 hT (k := 119) (d := 58) (j := g.toInt.toNat + 9) rfl rfl (by omega) (by omega) (fun r hr => gh_get hr _ (cw_i32 _)) (fun h37 Th37 wh37 => ?_)
          have Fh37 : cw_Fr cw_Ds cw_sh mk_gt h h37 := cw_Fr_tr Fh (cw_Fr_wrr wh37 (k := 119) (d := 58) rfl rfl (by decide +kernel))
          have eh37_16 : ri_at h37 111 16 = ri_at h 111 16 := ri_ne wh37 (.inl (by decide))
          have eh37_18 : ri_at h37 111 18 = ri_at h 111 18 := ri_ne wh37 (.inl (by decide))
          have eh37_19 : ri_at h37 111 19 = ri_at h 111 19 := ri_ne wh37 (.inl (by decide))
          have eh37_40 : ri_at h37 111 40 = ri_at h 111 40 := ri_ne wh37 (.inl (by decide))
          have eh37_8 : ri_at h37 111 8 = ri_at h 111 8 := ri_ne wh37 (.inl (by decide))
          have eh37_9 : ri_at h37 111 9 = ri_at h 111 9 := ri_ne wh37 (.inl (by decide))
          have eh37_11 : ri_at h37 111 11 = ri_at h 111 11 := ri_ne wh37 (.inl (by decide))
          refine ex_al oq_X12_hasRead_140 rfl ?_
          have Ph37 : cw_PQ G c kd s h37 := pq_wr2 Ph wh37 (by omega)
          refine ex_cv oq_X12_hasRead_141 (by decide) Th37 (k := 111) (d := 12) (as := []) (stk := []) rfl rfl rfl rfl rfl rfl ⟨rfl, rfl⟩ (R := fun o => ∃ hb : cv_H, o = (none, hb) ∧ cw_T G hb ∧ cw_PQ G c kd s hb ∧ cw_Fr cw_Ds cw_sh kk_X12_token.2.2.2.2.2.1 h37 hb ∧ (ri_at hb 111 8 = 0 ∨ c < ri_at hb 111 7)) (sp_tokenQ (cw_Xok_no2 hX) Th37 Ph37 (fun h a0 a1 a2 a3 => ⟨h, rfl, a0, a1, a2, a3⟩)) (fun o ho => ?_)
          obtain ⟨h38, rfl, Th38, Ph38, Ch38, prh38⟩ := ho
          show cw_X _ _ _ _ _ [] h38
          have Fh38 : cw_Fr cw_Ds cw_sh mk_gt h h38 := cw_Fr_tr Fh37 (cw_Fr_mono (by decide +kernel) Ch38)
          have eh38_16 : ri_at h38 111 16 = ri_at h37 111 16 := ri_frf Ch38 (d := 12) rfl rfl (by decide +kernel)
          have eh38_18 : ri_at h38 111 18 = ri_at h37 111 18 := ri_frf Ch38 (d := 12) rfl rfl (by decide +kernel)
          have eh38_19 : ri_at h38 111 19 = ri_at h37 111 19 := ri_frf Ch38 (d := 12) rfl rfl (by decide +kernel)
          have eh38_40 : ri_at h38 111 40 = ri_at h37 111 40 := ri_frf Ch38 (d := 12) rfl rfl (by decide +kernel)
          have eh38_11 : ri_at h38 111 11 = ri_at h37 111 11 := ri_frf Ch38 (d := 12) rfl rfl (by decide +kernel)
          have rgh38 : ∀ i, ri_at h38 119 i = ri_at h37 119 i := fun i => ri_frq Ch38 (d := 58) rfl rfl (by decide) (by decide +kernel)
          have rch38 : ∀ i, ri_at h38 124 i = ri_at h37 124 i := fun i => ri_frq Ch38 (d := 63) rfl rfl (by decide) (by decide +kernel)
          have rth38 : ∀ i, ri_at h38 117 i = ri_at h37 117 i := fun i => ri_frr Ch38 (d := 56) rfl rfl (by decide +kernel)
          have rlh38 : ∀ i, ri_at h38 116 i = ri_at h37 116 i := fun i => ri_frr Ch38 (d := 55) rfl rfl (by decide +kernel)
          refine ex_ic oq_X12_hasRead_144 (m := 1) (by decide) (fun x39 hx39 => ?_)
          have f1 : ri_at h38 119 (g.toInt.toNat + 1) = ri_at h 119 (g.toInt.toNat + 1) := ((rgh38 _).trans (ri_ne wh37 (.inr (by omega))))
          have f3 : ri_at h38 119 (g.toInt.toNat + 3) = ri_at h 119 (g.toInt.toNat + 3) := ((rgh38 _).trans (ri_ne wh37 (.inr (by omega))))
          have f4 : ri_at h38 119 (g.toInt.toNat + 4) = ri_at h 119 (g.toInt.toNat + 4) := ((rgh38 _).trans (ri_ne wh37 (.inr (by omega))))
          have gab : ga_B h38 g.toInt.toNat := by unfold ga_B; rw [f1, f3, f4]; exact hB
          have rdf : rd_I h38 := rd_ga hI (by omega) (by omega) (by omega) (by omega) (fun i hi => ((rgh38 i).trans (ri_ne wh37 (.inr (by omega))))) (fun i => ((rch38 i).trans (ri_ne wh37 (.inl (by decide))))) (fun i => ((rth38 i).trans (ri_ne wh37 (.inl (by decide))))) (fun i => ((rlh38 i).trans (ri_ne wh37 (.inl (by decide)))))
          exact ex_retb oq_X12_hasRead_145 rfl (by omega) (by omega) (hQ x39 h38 Th38 Ph38 Fh38 (.inr ⟨by omega, rdf, gab⟩))
        · refine ex_ic oq_X12_hasRead_134 (m := 1) (by decide) (fun x40 hx40 => ?_)
          refine ex_go oq_X12_hasRead_135 (t := 139) rfl rfl ?_
          refine ex_iw oq_X12_hasRead_139 hT (k := 119) (d := 58) (j := g.toInt.toNat + 9) rfl rfl (by omega) (by omega) (fun r hr => gh_get hr _ (cw_i32 _)) (fun h41 Th41 wh41 => ?_)
          have Fh41 : cw_Fr cw_Ds cw_sh mk_gt h h41 := cw_Fr_tr Fh (cw_Fr_wrr wh41 (k := 119) (d := 58) rfl rfl (by decide +kernel))
          have eh41_16 : ri_at h41 111 16 = ri_at h 111 16 := ri_ne wh41 (.inl (by decide))
          have eh41_18 : ri_at h41 111 18 = ri_at h 111 18 := ri_ne wh41 (.inl (by decide))
          have eh41_19 : ri_at h41 111 19 = ri_at h 111 19 := ri_ne wh41 (.inl (by decide))
          have eh41_40 : ri_at h41 111 40 = ri_at h 111 40 := ri_ne wh41 (.inl (by decide))
          have eh41_8 : ri_at h41 111 8 = ri_at h 111 8 := ri_ne wh41 (.inl (by decide))
          have eh41_9 : ri_at h41 111 9 = ri_at h 111 9 := ri_ne wh41 (.inl (by decide))
          have eh41_11 : ri_at h41 111 11 = ri_at h 111 11 := ri_ne wh41 (.inl (by decide))
          refine ex_al oq_X12_hasRead_140 rfl ?_
          have Ph41 : cw_PQ G c kd s h41 := pq_wr2 Ph wh41 (by omega)
          refine ex_cv oq_X12_hasRead_141 (by decide) Th41 (k := 111) (d := 12) (as := []) (stk := []) rfl rfl rfl rfl rfl rfl ⟨rfl, rfl⟩ (R := fun o => ∃ hb : cv_H, o = (none, hb) ∧ cw_T G hb ∧ cw_PQ G c kd s hb ∧ cw_Fr cw_Ds cw_sh kk_X12_token.2.2.2.2.2.1 h41 hb ∧ (ri_at hb 111 8 = 0 ∨ c < ri_at hb 111 7)) (sp_tokenQ (cw_Xok_no2 hX) Th41 Ph41 (fun h a0 a1 a2 a3 => ⟨h, rfl, a0, a1, a2, a3⟩)) (fun o ho => ?_)
          obtain ⟨h42, rfl, Th42, Ph42, Ch42, prh42⟩ := ho
          show cw_X _ _ _ _ _ [] h42
          have Fh42 : cw_Fr cw_Ds cw_sh mk_gt h h42 := cw_Fr_tr Fh41 (cw_Fr_mono (by decide +kernel) Ch42)
          have eh42_16 : ri_at h42 111 16 = ri_at h41 111 16 := ri_frf Ch42 (d := 12) rfl rfl (by decide +kernel)
          have eh42_18 : ri_at h42 111 18 = ri_at h41 111 18 := ri_frf Ch42 (d := 12) rfl rfl (by decide +kernel)
          have eh42_19 : ri_at h42 111 19 = ri_at h41 111 19 := ri_frf Ch42 (d := 12) rfl rfl (by decide +kernel)
          have eh42_40 : ri_at h42 111 40 = ri_at h41 111 40 := ri_frf Ch42 (d := 12) rfl rfl (by decide +kernel)
          have eh42_11 : ri_at h42 111 11 = ri_at h41 111 11 := ri_frf Ch42 (d := 12) rfl rfl (by decide +kernel)
          have rgh42 : ∀ i, ri_at h42 119 i = ri_at h41 119 i := fun i => ri_frq Ch42 (d := 58) rfl rfl (by decide) (by decide +kernel)
          have rch42 : ∀ i, ri_at h42 124 i = ri_at h41 124 i := fun i => ri_frq Ch42 (d := 63) rfl rfl (by decide) (by decide +kernel)
          have rth42 : ∀ i, ri_at h42 117 i = ri_at h41 117 i := fun i => ri_frr Ch42 (d := 56) rfl rfl (by decide +kernel)
          have rlh42 : ∀ i, ri_at h42 116 i = ri_at h41 116 i := fun i => ri_frr Ch42 (d := 55) rfl rfl (by decide +kernel)
          refine ex_ic oq_X12_hasRead_144 (m := 1) (by decide) (fun x43 hx43 => ?_)
          have f1 : ri_at h42 119 (g.toInt.toNat + 1) = ri_at h 119 (g.toInt.toNat + 1) := ((rgh42 _).trans (ri_ne wh41 (.inr (by omega))))
          have f3 : ri_at h42 119 (g.toInt.toNat + 3) = ri_at h 119 (g.toInt.toNat + 3) := ((rgh42 _).trans (ri_ne wh41 (.inr (by omega))))
          have f4 : ri_at h42 119 (g.toInt.toNat + 4) = ri_at h 119 (g.toInt.toNat + 4) := ((rgh42 _).trans (ri_ne wh41 (.inr (by omega))))
          have gab : ga_B h42 g.toInt.toNat := by unfold ga_B; rw [f1, f3, f4]; exact hB
          have rdf : rd_I h42 := rd_ga hI (by omega) (by omega) (by omega) (by omega) (fun i hi => ((rgh42 i).trans (ri_ne wh41 (.inr (by omega))))) (fun i => ((rch42 i).trans (ri_ne wh41 (.inl (by decide))))) (fun i => ((rth42 i).trans (ri_ne wh41 (.inl (by decide))))) (fun i => ((rlh42 i).trans (ri_ne wh41 (.inl (by decide)))))
          exact ex_retb oq_X12_hasRead_145 rfl (by omega) (by omega) (hQ x43 h42 Th42 Ph42 Fh42 (.inr ⟨by omega, rdf, gab⟩))
      · refine ex_al oq_X12_hasRead_102 rfl ?_
        refine ex_bi oq_X12_hasRead_103 (m := 29) (by decide) (fun x44 hx44 => ?_)
        refine ex_cv oq_X12_hasRead_105 (by decide) hT (k := 111) (d := 12) (as := [cv_i x44]) (stk := []) rfl rfl rfl rfl rfl rfl ⟨rfl, rfl⟩ (R := fun o => ∃ x : Int32, o = (some (cv_i x), h) ∧ (x.toInt = 1 ∧ (ri_at h 111 8 = 1 ∧ ri_at h 111 9 = x44.toInt) ∨ x.toInt = 0 ∧ ¬ (ri_at h 111 8 = 1 ∧ ri_at h 111 9 = x44.toInt))) (sp_isKey hT x44  (fun x hx => ⟨x, rfl, hx⟩)) (fun ox45 hox45 => ?_)
        obtain ⟨x45, rfl, hx45⟩ := hox45
        show cw_X _ _ _ _ _ [cv_i x45] h
        refine ex_if0 oq_X12_hasRead_108 (t := 117) rfl rfl (fun (c46 : ¬ x45.toInt = 0) => ?_) (fun (c46 : ¬ (¬ x45.toInt = 0)) => ?_)
        · refine ex_al oq_X12_hasRead_117 rfl ?_
          refine ex_gf oq_X12_hasRead_118 hT (k := 111) (d := 12) rfl rfl (fr_gateHas hT) ?_
          refine ex_il oq_X12_hasRead_121 rfl ?_
          refine ex_bi oq_X12_hasRead_122 (m := 9) (by decide) (fun x47 hx47 => ?_)
          refine ex_add oq_X12_hasRead_124 (by omega) (fun x48 hx48 => ?_)
          refine ex_al oq_X12_hasRead_125 rfl ?_
          refine ex_bi oq_X12_hasRead_126 (m := 28) (by decide) (fun x49 hx49 => ?_)
          refine ex_cv oq_X12_hasRead_128 (by decide) hT (k := 111) (d := 12) (as := [cv_i x49]) (stk := [cv_i x48, cv_r 119]) rfl rfl rfl rfl rfl rfl ⟨rfl, rfl⟩ (R := fun o => ∃ x : Int32, o = (some (cv_i x), h) ∧ (x.toInt = 1 ∧ (ri_at h 111 8 = 1 ∧ ri_at h 111 9 = x49.toInt) ∨ x.toInt = 0 ∧ ¬ (ri_at h 111 8 = 1 ∧ ri_at h 111 9 = x49.toInt))) (sp_isKey hT x49  (fun x hx => ⟨x, rfl, hx⟩)) (fun ox50 hox50 => ?_)
          obtain ⟨x50, rfl, hx50⟩ := hox50
          show cw_X _ _ _ _ _ [cv_i x50, cv_i x48, cv_r 119] h
          refine ex_if0 oq_X12_hasRead_131 (t := 138) rfl rfl (fun (c51 : x50.toInt = 0) => ?_) (fun (c51 : ¬ (x50.toInt = 0)) => ?_)
          · refine ex_ic oq_X12_hasRead_138 (m := 2) (by decide) (fun x52 hx52 => ?_)
            refine ex_iw oq_X12_hasRead_139 hT (k := 119) (d := 58) (j := g.toInt.toNat + 9) rfl rfl (by omega) (by omega) (fun r hr => gh_get hr _ (cw_i32 _)) (fun h53 Th53 wh53 => ?_)
            have Fh53 : cw_Fr cw_Ds cw_sh mk_gt h h53 := cw_Fr_tr Fh (cw_Fr_wrr wh53 (k := 119) (d := 58) rfl rfl (by decide +kernel))
            have eh53_16 : ri_at h53 111 16 = ri_at h 111 16 := ri_ne wh53 (.inl (by decide))
            have eh53_18 : ri_at h53 111 18 = ri_at h 111 18 := ri_ne wh53 (.inl (by decide))
            have eh53_19 : ri_at h53 111 19 = ri_at h 111 19 := ri_ne wh53 (.inl (by decide))
            have eh53_40 : ri_at h53 111 40 = ri_at h 111 40 := ri_ne wh53 (.inl (by decide))
            have eh53_8 : ri_at h53 111 8 = ri_at h 111 8 := ri_ne wh53 (.inl (by decide))
            have eh53_9 : ri_at h53 111 9 = ri_at h 111 9 := ri_ne wh53 (.inl (by decide))
            have eh53_11 : ri_at h53 111 11 = ri_at h 111 11 := ri_ne wh53 (.inl (by decide))
            refine ex_al oq_X12_hasRead_140 rfl ?_
            have Ph53 : cw_PQ G c kd s h53 := pq_wr2 Ph wh53 (by omega)
            refine ex_cv oq_X12_hasRead_141 (by decide) Th53 (k := 111) (d := 12) (as := []) (stk := []) rfl rfl rfl rfl rfl rfl ⟨rfl, rfl⟩ (R := fun o => ∃ hb : cv_H, o = (none, hb) ∧ cw_T G hb ∧ cw_PQ G c kd s hb ∧ cw_Fr cw_Ds cw_sh kk_X12_token.2.2.2.2.2.1 h53 hb ∧ (ri_at hb 111 8 = 0 ∨ c < ri_at hb 111 7)) (sp_tokenQ (cw_Xok_no2 hX) Th53 Ph53 (fun h a0 a1 a2 a3 => ⟨h, rfl, a0, a1, a2, a3⟩)) (fun o ho => ?_)
            obtain ⟨h54, rfl, Th54, Ph54, Ch54, prh54⟩ := ho
            show cw_X _ _ _ _ _ [] h54
            have Fh54 : cw_Fr cw_Ds cw_sh mk_gt h h54 := cw_Fr_tr Fh53 (cw_Fr_mono (by decide +kernel) Ch54)
            have eh54_16 : ri_at h54 111 16 = ri_at h53 111 16 := ri_frf Ch54 (d := 12) rfl rfl (by decide +kernel)
            have eh54_18 : ri_at h54 111 18 = ri_at h53 111 18 := ri_frf Ch54 (d := 12) rfl rfl (by decide +kernel)
            have eh54_19 : ri_at h54 111 19 = ri_at h53 111 19 := ri_frf Ch54 (d := 12) rfl rfl (by decide +kernel)
            have eh54_40 : ri_at h54 111 40 = ri_at h53 111 40 := ri_frf Ch54 (d := 12) rfl rfl (by decide +kernel)
            have eh54_11 : ri_at h54 111 11 = ri_at h53 111 11 := ri_frf Ch54 (d := 12) rfl rfl (by decide +kernel)
            have rgh54 : ∀ i, ri_at h54 119 i = ri_at h53 119 i := fun i => ri_frq Ch54 (d := 58) rfl rfl (by decide) (by decide +kernel)
            have rch54 : ∀ i, ri_at h54 124 i = ri_at h53 124 i := fun i => ri_frq Ch54 (d := 63) rfl rfl (by decide) (by decide +kernel)
            have rth54 : ∀ i, ri_at h54 117 i = ri_at h53 117 i := fun i => ri_frr Ch54 (d := 56) rfl rfl (by decide +kernel)
            have rlh54 : ∀ i, ri_at h54 116 i = ri_at h53 116 i := fun i => ri_frr Ch54 (d := 55) rfl rfl (by decide +kernel)
            refine ex_ic oq_X12_hasRead_144 (m := 1) (by decide) (fun x55 hx55 => ?_)
            have f1 : ri_at h54 119 (g.toInt.toNat + 1) = ri_at h 119 (g.toInt.toNat + 1) := ((rgh54 _).trans (ri_ne wh53 (.inr (by omega))))
            have f3 : ri_at h54 119 (g.toInt.toNat + 3) = ri_at h 119 (g.toInt.toNat + 3) := ((rgh54 _).trans (ri_ne wh53 (.inr (by omega))))
            have f4 : ri_at h54 119 (g.toInt.toNat + 4) = ri_at h 119 (g.toInt.toNat + 4) := ((rgh54 _).trans (ri_ne wh53 (.inr (by omega))))
            have gab : ga_B h54 g.toInt.toNat := by unfold ga_B; rw [f1, f3, f4]; exact hB
            have rdf : rd_I h54 := rd_ga hI (by omega) (by omega) (by omega) (by omega) (fun i hi => ((rgh54 i).trans (ri_ne wh53 (.inr (by omega))))) (fun i => ((rch54 i).trans (ri_ne wh53 (.inl (by decide))))) (fun i => ((rth54 i).trans (ri_ne wh53 (.inl (by decide))))) (fun i => ((rlh54 i).trans (ri_ne wh53 (.inl (by decide)))))
            exact ex_retb oq_X12_hasRead_145 rfl (by omega) (by omega) (hQ x55 h54 Th54 Ph54 Fh54 (.inr ⟨by omega, rdf, gab⟩))
          · refine ex_ic oq_X12_hasRead_134 (m := 1) (by decide) (fun x56 hx56 => ?_)
            refine ex_go oq_X12_hasRead_135 (t := 139) rfl rfl ?_
            refine ex_iw oq_X12_hasRead_139 hT (k := 119) (d := 58) (j := g.toInt.toNat + 9) rfl rfl (by omega) (by omega) (fun r hr => gh_get hr _ (cw_i32 _)) (fun h57 Th57 wh57 => ?_)
            have Fh57 : cw_Fr cw_Ds cw_sh mk_gt h h57 := cw_Fr_tr Fh (cw_Fr_wrr wh57 (k := 119) (d := 58) rfl rfl (by decide +kernel))
            have eh57_16 : ri_at h57 111 16 = ri_at h 111 16 := ri_ne wh57 (.inl (by decide))
            have eh57_18 : ri_at h57 111 18 = ri_at h 111 18 := ri_ne wh57 (.inl (by decide))
            have eh57_19 : ri_at h57 111 19 = ri_at h 111 19 := ri_ne wh57 (.inl (by decide))
            have eh57_40 : ri_at h57 111 40 = ri_at h 111 40 := ri_ne wh57 (.inl (by decide))
            have eh57_8 : ri_at h57 111 8 = ri_at h 111 8 := ri_ne wh57 (.inl (by decide))
            have eh57_9 : ri_at h57 111 9 = ri_at h 111 9 := ri_ne wh57 (.inl (by decide))
            have eh57_11 : ri_at h57 111 11 = ri_at h 111 11 := ri_ne wh57 (.inl (by decide))
            refine ex_al oq_X12_hasRead_140 rfl ?_
            have Ph57 : cw_PQ G c kd s h57 := pq_wr2 Ph wh57 (by omega)
            refine ex_cv oq_X12_hasRead_141 (by decide) Th57 (k := 111) (d := 12) (as := []) (stk := []) rfl rfl rfl rfl rfl rfl ⟨rfl, rfl⟩ (R := fun o => ∃ hb : cv_H, o = (none, hb) ∧ cw_T G hb ∧ cw_PQ G c kd s hb ∧ cw_Fr cw_Ds cw_sh kk_X12_token.2.2.2.2.2.1 h57 hb ∧ (ri_at hb 111 8 = 0 ∨ c < ri_at hb 111 7)) (sp_tokenQ (cw_Xok_no2 hX) Th57 Ph57 (fun h a0 a1 a2 a3 => ⟨h, rfl, a0, a1, a2, a3⟩)) (fun o ho => ?_)
            obtain ⟨h58, rfl, Th58, Ph58, Ch58, prh58⟩ := ho
            show cw_X _ _ _ _ _ [] h58
            have Fh58 : cw_Fr cw_Ds cw_sh mk_gt h h58 := cw_Fr_tr Fh57 (cw_Fr_mono (by decide +kernel) Ch58)
            have eh58_16 : ri_at h58 111 16 = ri_at h57 111 16 := ri_frf Ch58 (d := 12) rfl rfl (by decide +kernel)
            have eh58_18 : ri_at h58 111 18 = ri_at h57 111 18 := ri_frf Ch58 (d := 12) rfl rfl (by decide +kernel)
            have eh58_19 : ri_at h58 111 19 = ri_at h57 111 19 := ri_frf Ch58 (d := 12) rfl rfl (by decide +kernel)
            have eh58_40 : ri_at h58 111 40 = ri_at h57 111 40 := ri_frf Ch58 (d := 12) rfl rfl (by decide +kernel)
            have eh58_11 : ri_at h58 111 11 = ri_at h57 111 11 := ri_frf Ch58 (d := 12) rfl rfl (by decide +kernel)
            have rgh58 : ∀ i, ri_at h58 119 i = ri_at h57 119 i := fun i => ri_frq Ch58 (d := 58) rfl rfl (by decide) (by decide +kernel)
            have rch58 : ∀ i, ri_at h58 124 i = ri_at h57 124 i := fun i => ri_frq Ch58 (d := 63) rfl rfl (by decide) (by decide +kernel)
            have rth58 : ∀ i, ri_at h58 117 i = ri_at h57 117 i := fun i => ri_frr Ch58 (d := 56) rfl rfl (by decide +kernel)
            have rlh58 : ∀ i, ri_at h58 116 i = ri_at h57 116 i := fun i => ri_frr Ch58 (d := 55) rfl rfl (by decide +kernel)
            refine ex_ic oq_X12_hasRead_144 (m := 1) (by decide) (fun x59 hx59 => ?_)
            have f1 : ri_at h58 119 (g.toInt.toNat + 1) = ri_at h 119 (g.toInt.toNat + 1) := ((rgh58 _).trans (ri_ne wh57 (.inr (by omega))))
            have f3 : ri_at h58 119 (g.toInt.toNat + 3) = ri_at h 119 (g.toInt.toNat + 3) := ((rgh58 _).trans (ri_ne wh57 (.inr (by omega))))
            have f4 : ri_at h58 119 (g.toInt.toNat + 4) = ri_at h 119 (g.toInt.toNat + 4) := ((rgh58 _).trans (ri_ne wh57 (.inr (by omega))))
            have gab : ga_B h58 g.toInt.toNat := by unfold ga_B; rw [f1, f3, f4]; exact hB
            have rdf : rd_I h58 := rd_ga hI (by omega) (by omega) (by omega) (by omega) (fun i hi => ((rgh58 i).trans (ri_ne wh57 (.inr (by omega))))) (fun i => ((rch58 i).trans (ri_ne wh57 (.inl (by decide))))) (fun i => ((rth58 i).trans (ri_ne wh57 (.inl (by decide))))) (fun i => ((rlh58 i).trans (ri_ne wh57 (.inl (by decide)))))
            exact ex_retb oq_X12_hasRead_145 rfl (by omega) (by omega) (hQ x59 h58 Th58 Ph58 Fh58 (.inr ⟨by omega, rdf, gab⟩))
        · refine ex_al oq_X12_hasRead_111 rfl ?_
          refine ex_ic oq_X12_hasRead_112 (m := 1) (by decide) (fun x60 hx60 => ?_)
          refine ex_cv oq_X12_hasRead_113 (by decide) hT (k := 111) (d := 12) (as := [cv_i x60]) (stk := []) rfl rfl rfl rfl rfl rfl ⟨rfl, rfl⟩ (R := fun o => ∃ (x : Int32) (hb : cv_H), o = (some (cv_i x), hb) ∧ cw_T G hb ∧ cw_PQ G c kd s hb ∧ cw_Fr cw_Ds cw_sh kk_X12_wrong.2.2.2.2.2.1 h hb ∧ x.toInt = 0) (sp_wrong hT Ph x60 (fun x h a1 a2 a3 a4 => ⟨x, h, rfl, a1, a2, a3, a4⟩)) (fun o ho => ?_)
          obtain ⟨x62, h61, rfl, Th61, Ph61, Ch61, hx62⟩ := ho
          show cw_X _ _ _ _ _ [cv_i x62] h61
          have Fh61 : cw_Fr cw_Ds cw_sh mk_gt h h61 := cw_Fr_tr Fh (cw_Fr_mono (by decide +kernel) Ch61)
          have eh61_16 : ri_at h61 111 16 = ri_at h 111 16 := ri_frf Ch61 (d := 12) rfl rfl (by decide +kernel)
          have eh61_18 : ri_at h61 111 18 = ri_at h 111 18 := ri_frf Ch61 (d := 12) rfl rfl (by decide +kernel)
          have eh61_19 : ri_at h61 111 19 = ri_at h 111 19 := ri_frf Ch61 (d := 12) rfl rfl (by decide +kernel)
          have eh61_40 : ri_at h61 111 40 = ri_at h 111 40 := ri_frf Ch61 (d := 12) rfl rfl (by decide +kernel)
          have eh61_8 : ri_at h61 111 8 = ri_at h 111 8 := ri_frf Ch61 (d := 12) rfl rfl (by decide +kernel)
          have eh61_9 : ri_at h61 111 9 = ri_at h 111 9 := ri_frf Ch61 (d := 12) rfl rfl (by decide +kernel)
          have eh61_11 : ri_at h61 111 11 = ri_at h 111 11 := ri_frf Ch61 (d := 12) rfl rfl (by decide +kernel)
          have rgh61 : ∀ i, ri_at h61 119 i = ri_at h 119 i := fun i => ri_frq Ch61 (d := 58) rfl rfl (by decide) (by decide +kernel)
          have rch61 : ∀ i, ri_at h61 124 i = ri_at h 124 i := fun i => ri_frq Ch61 (d := 63) rfl rfl (by decide) (by decide +kernel)
          have rth61 : ∀ i, ri_at h61 117 i = ri_at h 117 i := fun i => ri_frr Ch61 (d := 56) rfl rfl (by decide +kernel)
          have rlh61 : ∀ i, ri_at h61 116 i = ri_at h 116 i := fun i => ri_frr Ch61 (d := 55) rfl rfl (by decide +kernel)
          exact ex_retb oq_X12_hasRead_116 rfl (by omega) (by omega) (hQ x62 h61 Th61 Ph61 Fh61 (.inl (by omega)))
    | 3, _, c1 =>
      refine ⟨rfl, ?_⟩
      show cw_X _ _ _ 146 _ _ _
      refine ex_al oq_X12_hasRead_146 rfl ?_
      refine ex_al oq_X12_hasRead_147 rfl ?_
      refine ex_gf oq_X12_hasRead_148 hT (k := 111) (d := 12) rfl rfl (fr_gateHas hT) ?_
      refine ex_il oq_X12_hasRead_151 rfl ?_
      refine ex_bi oq_X12_hasRead_152 (m := 10) (by decide) (fun x63 hx63 => ?_)
      refine ex_add oq_X12_hasRead_154 (by omega) (fun x64 hx64 => ?_)
      refine ex_ic oq_X12_hasRead_155 (m := 2) (by decide) (fun x65 hx65 => ?_)
      refine ex_ic oq_X12_hasRead_156 (m := 0) (by decide) (fun x66 hx66 => ?_)
      refine ex_si oq_X12_hasRead_157 (m := 9999) (by decide) (fun x67 hx67 => ?_)
      refine ex_cv oq_X12_hasRead_160 (by decide) hT (k := 111) (d := 12) (as := [cv_r 119, cv_i x64, cv_i x65, cv_i x66, cv_i x67]) (stk := []) rfl rfl rfl rfl rfl rfl ⟨rfl, rfl⟩ (R := fun o => ∃ (x : Int32) (hb : cv_H), o = (some (cv_i x), hb) ∧ cw_T G hb ∧ cw_PQ G c kd s hb ∧ cw_Fr cw_Ds cw_sh mk_gt h hb ∧ (x.toInt = 0 ∨ x.toInt = 1 ∧ rd_I hb ∧ ga_B hb g.toInt.toNat)) (sp_numbersG (cw_Xok_no2 hX) hT Ph hI g.toInt.toNat (ri_at h 111 16).toNat (by omega) (by omega) hB (by omega) x64 x65 x66 x67 (by omega) (by omega) (by omega) (fun x h a0 a1 a2 a3 => ⟨x, h, rfl, a0, a1, a2, a3⟩)) (fun o ho => ?_)
      obtain ⟨x69, h68, rfl, Th68, Ph68, Ch68, dx69⟩ := ho
      show cw_X _ _ _ _ _ [cv_i x69] h68
      have Fh68 : cw_Fr cw_Ds cw_sh mk_gt h h68 := cw_Fr_tr Fh (cw_Fr_mono (by decide +kernel) Ch68)
      have vx69 : x69.toInt = 0 ∨ x69.toInt = 1 := dx69.elim .inl (fun q => .inr q.1)
      exact ex_retb oq_X12_hasRead_163 rfl (by omega) (by omega) (hQ x69 h68 Th68 Ph68 Fh68 dx69)
    | 4, _, c1 =>
      refine ⟨rfl, ?_⟩
      show cw_X _ _ _ 164 _ _ _
      refine ex_al oq_X12_hasRead_164 rfl ?_
      refine ex_al oq_X12_hasRead_165 rfl ?_
      refine ex_gf oq_X12_hasRead_166 hT (k := 111) (d := 12) rfl rfl (fr_gateHas hT) ?_
      refine ex_il oq_X12_hasRead_169 rfl ?_
      refine ex_bi oq_X12_hasRead_170 (m := 13) (by decide) (fun x70 hx70 => ?_)
      refine ex_add oq_X12_hasRead_172 (by omega) (fun x71 hx71 => ?_)
      refine ex_ic oq_X12_hasRead_173 (m := 1) (by decide) (fun x72 hx72 => ?_)
      refine ex_ic oq_X12_hasRead_174 (m := 0) (by decide) (fun x73 hx73 => ?_)
      refine ex_si oq_X12_hasRead_175 (m := 9999) (by decide) (fun x74 hx74 => ?_)
      refine ex_cv oq_X12_hasRead_178 (by decide) hT (k := 111) (d := 12) (as := [cv_r 119, cv_i x71, cv_i x72, cv_i x73, cv_i x74]) (stk := []) rfl rfl rfl rfl rfl rfl ⟨rfl, rfl⟩ (R := fun o => ∃ (x : Int32) (hb : cv_H), o = (some (cv_i x), hb) ∧ cw_T G hb ∧ cw_PQ G c kd s hb ∧ cw_Fr cw_Ds cw_sh mk_gt h hb ∧ (x.toInt = 0 ∨ x.toInt = 1 ∧ rd_I hb ∧ ga_B hb g.toInt.toNat)) (sp_numbersG (cw_Xok_no2 hX) hT Ph hI g.toInt.toNat (ri_at h 111 16).toNat (by omega) (by omega) hB (by omega) x71 x72 x73 x74 (by omega) (by omega) (by omega) (fun x h a0 a1 a2 a3 => ⟨x, h, rfl, a0, a1, a2, a3⟩)) (fun o ho => ?_)
      obtain ⟨x76, h75, rfl, Th75, Ph75, Ch75, dx76⟩ := ho
      show cw_X _ _ _ _ _ [cv_i x76] h75
      have Fh75 : cw_Fr cw_Ds cw_sh mk_gt h h75 := cw_Fr_tr Fh (cw_Fr_mono (by decide +kernel) Ch75)
      have vx76 : x76.toInt = 0 ∨ x76.toInt = 1 := dx76.elim .inl (fun q => .inr q.1)
      exact ex_retb oq_X12_hasRead_181 rfl (by omega) (by omega) (hQ x76 h75 Th75 Ph75 Fh75 dx76)
    | 5, _, c1 =>
      refine ⟨rfl, ?_⟩
      show cw_X _ _ _ 182 _ _ _
      refine ex_al oq_X12_hasRead_182 rfl ?_
      refine ex_al oq_X12_hasRead_183 rfl ?_
      refine ex_gf oq_X12_hasRead_184 hT (k := 111) (d := 12) rfl rfl (fr_rise hT) ?_
      refine ex_bi oq_X12_hasRead_187 (m := 36) (by decide) (fun x77 hx77 => ?_)
      refine ex_bi oq_X12_hasRead_189 (m := 9) (by decide) (fun x78 hx78 => ?_)
      refine ex_al oq_X12_hasRead_191 rfl ?_
      obtain ⟨x79, ax79, rx79, lx79, ux79⟩ := fi_gatesRead hT
      refine ex_gf oq_X12_hasRead_192 hT (k := 111) (d := 12) rfl rfl ax79 ?_
      refine ex_mul oq_X12_hasRead_195 (m := 9 * x79.toInt) (by rw [hx78]) (by omega) (fun x80 hx80 => ?_)
      refine ex_add oq_X12_hasRead_196 (by omega) (fun x81 hx81 => ?_)
      refine ex_bi oq_X12_hasRead_197 (m := 9) (by decide) (fun x82 hx82 => ?_)
      refine ex_ic oq_X12_hasRead_199 (m := 0) (by decide) (fun x83 hx83 => ?_)
      refine ex_si oq_X12_hasRead_200 (m := 200) (by decide) (fun x84 hx84 => ?_)
      refine ex_cv oq_X12_hasRead_203 (by decide) hT (k := 111) (d := 12) (as := [cv_r 120, cv_i x81, cv_i x82, cv_i x83, cv_i x84]) (stk := []) rfl rfl rfl rfl rfl rfl ⟨rfl, rfl⟩ (cw_HX hq_X12_numbers_1 rfl (cw_Xok_no2 hX) ⟨hT, Ph⟩ ⟨.inl ⟨by decide, 111, rfl, rfl⟩, .inl ⟨by decide, 120, rfl, rfl⟩, ⟨_, rfl, by show (36 : Int) ≤ _; omega, by show _ ≤ (63 : Int); omega, cw_tg0⟩, ⟨_, rfl, by show (9 : Int) ≤ _; omega, by show _ ≤ (9 : Int); omega, cw_tg0⟩, ⟨_, rfl, cw_top_ok _⟩, ⟨_, rfl, cw_top_ok _⟩, trivial⟩ (fun t ht => absurd ht List.not_mem_nil)) (fun ox86 hox86 => ?_)
      obtain ⟨x86, h85, rfl, rx86, Th85, Ph85, Ch85, tx86⟩ := po_int hox86 rfl
      have lx86 := rx86.1
      have ux86 := rx86.2.1
      try dsimp only at lx86 ux86
      show cw_X _ _ _ _ _ [cv_i x86] h85
      have Fh85 : cw_Fr cw_Ds cw_sh mk_gt h h85 := cw_Fr_tr Fh (cw_Fr_mono (by decide +kernel) Ch85)
      have eh85_16 : ri_at h85 111 16 = ri_at h 111 16 := ri_frf Ch85 (d := 12) rfl rfl (by decide +kernel)
      have eh85_18 : ri_at h85 111 18 = ri_at h 111 18 := ri_frf Ch85 (d := 12) rfl rfl (by decide +kernel)
      have eh85_19 : ri_at h85 111 19 = ri_at h 111 19 := ri_frf Ch85 (d := 12) rfl rfl (by decide +kernel)
      have eh85_40 : ri_at h85 111 40 = ri_at h 111 40 := ri_frf Ch85 (d := 12) rfl rfl (by decide +kernel)
      have rgh85 : ∀ i, ri_at h85 119 i = ri_at h 119 i := fun i => ri_frq Ch85 (d := 58) rfl rfl (by decide) (by decide +kernel)
      have rch85 : ∀ i, ri_at h85 124 i = ri_at h 124 i := fun i => ri_frq Ch85 (d := 63) rfl rfl (by decide) (by decide +kernel)
      have rth85 : ∀ i, ri_at h85 117 i = ri_at h 117 i := fun i => ri_frr Ch85 (d := 56) rfl rfl (by decide +kernel)
      have rlh85 : ∀ i, ri_at h85 116 i = ri_at h 116 i := fun i => ri_frr Ch85 (d := 55) rfl rfl (by decide +kernel)
      rcases (by omega : x86.toInt = 0 ∨ x86.toInt = 1) with hx0 | hx1
      · exact ex_retb oq_X12_hasRead_206 rfl (by omega) (by omega) (hQ x86 h85 Th85 Ph85 Fh85 (.inl hx0))
      · have f1 : ri_at h85 119 (g.toInt.toNat + 1) = ri_at h 119 (g.toInt.toNat + 1) := (rgh85 _)
        have f3 : ri_at h85 119 (g.toInt.toNat + 3) = ri_at h 119 (g.toInt.toNat + 3) := (rgh85 _)
        have f4 : ri_at h85 119 (g.toInt.toNat + 4) = ri_at h 119 (g.toInt.toNat + 4) := (rgh85 _)
        have gab : ga_B h85 g.toInt.toNat := by unfold ga_B; rw [f1, f3, f4]; exact hB
        have rdf : rd_I h85 := rd_ga hI (by omega) (by omega) (by omega) (by omega) (fun i hi => (rgh85 i)) (fun i => (rch85 i)) (fun i => (rth85 i)) (fun i => (rlh85 i))
        exact ex_retb oq_X12_hasRead_206 rfl (by omega) (by omega) (hQ x86 h85 Th85 Ph85 Fh85 (.inr ⟨by omega, rdf, gab⟩))
    | 6, _, c1 =>
      refine ⟨rfl, ?_⟩
      show cw_X _ _ _ 207 _ _ _
      refine ex_al oq_X12_hasRead_207 rfl ?_
      refine ex_il oq_X12_hasRead_208 rfl ?_
      refine ex_cv oq_X12_hasRead_209 (by decide) hT (k := 111) (d := 12) (as := [cv_i g]) (stk := []) rfl rfl rfl rfl rfl rfl ⟨rfl, rfl⟩ (R := fun o => ∃ (x : Int32) (hb : cv_H), o = (some (cv_i x), hb) ∧ cw_T G hb ∧ cw_PQ G c kd s hb ∧ cw_Fr cw_Ds cw_sh mk_gt h hb ∧ (x.toInt = 0 ∨ x.toInt = 1 ∧ rd_I hb ∧ ga_B hb g.toInt.toNat)) (sp_causeRead (cw_Xok_no2 hX) hT Ph hI g (by omega) (by omega) hB (fun x h a0 a1 a2 a3 => ⟨x, h, rfl, a0, a1, a2, a3⟩)) (fun o ho => ?_)
      obtain ⟨x88, h87, rfl, Th87, Ph87, Ch87, dx88⟩ := ho
      show cw_X _ _ _ _ _ [cv_i x88] h87
      have Fh87 : cw_Fr cw_Ds cw_sh mk_gt h h87 := cw_Fr_tr Fh (cw_Fr_mono (by decide +kernel) Ch87)
      have vx88 : x88.toInt = 0 ∨ x88.toInt = 1 := dx88.elim .inl (fun q => .inr q.1)
      exact ex_retb oq_X12_hasRead_212 rfl (by omega) (by omega) (hQ x88 h87 Th87 Ph87 Fh87 dx88)
    | i + 7, hi, _ => exact absurd hi (by show ¬ i + 7 < 7; omega)
end SPY6
