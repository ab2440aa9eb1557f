/-! ===== methods walked by hand: signs ===== -/
section SPW
variable {G c kd s : Int} {X : cv_X} {Q : cv_O → Prop}
theorem oq_X12_signs_0 : cw_ho 198 0 (.aload_n 0) 1 0 0 0 := rfl
theorem oq_X12_signs_1 : cw_ho 198 1 (.bipush 41) 2 0 0 0 := rfl
theorem oq_X12_signs_3 : cw_ho 198 3 (.invokevirtual 190) 3 167 1 12 := rfl
theorem oq_X12_signs_6 : cw_ho 198 6 (.ifCond .eq 41) 3 0 0 0 := rfl
theorem oq_X12_signs_9 : cw_ho 198 9 (.aload_n 0) 1 0 0 0 := rfl
theorem oq_X12_signs_10 : cw_ho 198 10 (.getfield 331) 3 12 39 0 := rfl
theorem oq_X12_signs_13 : cw_ho 198 13 (.ifCond .le 34) 3 0 0 0 := rfl
theorem oq_X12_signs_16 : cw_ho 198 16 (.aload_n 0) 1 0 0 0 := rfl
theorem oq_X12_signs_17 : cw_ho 198 17 (.iconst 1) 1 0 0 0 := rfl
theorem oq_X12_signs_18 : cw_ho 198 18 (.invokevirtual 346) 3 194 1 12 := rfl
theorem oq_X12_signs_21 : cw_ho 198 21 (.aload_n 0) 1 0 0 0 := rfl
theorem oq_X12_signs_22 : cw_ho 198 22 (.dup) 1 0 0 0 := rfl
theorem oq_X12_signs_23 : cw_ho 198 23 (.getfield 318) 3 12 37 0 := rfl
theorem oq_X12_signs_26 : cw_ho 198 26 (.iconst 1) 1 0 0 0 := rfl
theorem oq_X12_signs_27 : cw_ho 198 27 (.isub) 1 0 0 0 := rfl
theorem oq_X12_signs_28 : cw_ho 198 28 (.putfield 318) 3 12 37 0 := rfl
theorem oq_X12_signs_31 : cw_ho 198 31 (.aload_n 0) 1 0 0 0 := rfl
theorem oq_X12_signs_32 : cw_ho 198 32 (.dup) 1 0 0 0 := rfl
theorem oq_X12_signs_33 : cw_ho 198 33 (.getfield 331) 3 12 39 0 := rfl
theorem oq_X12_signs_36 : cw_ho 198 36 (.iconst 1) 1 0 0 0 := rfl
theorem oq_X12_signs_37 : cw_ho 198 37 (.isub) 1 0 0 0 := rfl
theorem oq_X12_signs_38 : cw_ho 198 38 (.putfield 331) 3 12 39 0 := rfl
theorem oq_X12_signs_41 : cw_ho 198 41 (.aload_n 0) 1 0 0 0 := rfl
theorem oq_X12_signs_42 : cw_ho 198 42 (.invokevirtual 187) 3 163 0 12 := rfl
theorem oq_X12_signs_45 : cw_ho 198 45 (.iconst 1) 1 0 0 0 := rfl
theorem oq_X12_signs_46 : cw_ho 198 46 (.ireturn) 1 0 0 0 := rfl
theorem oq_X12_signs_47 : cw_ho 198 47 (.aload_n 0) 1 0 0 0 := rfl
theorem oq_X12_signs_48 : cw_ho 198 48 (.bipush 21) 2 0 0 0 := rfl
theorem oq_X12_signs_50 : cw_ho 198 50 (.invokevirtual 281) 3 166 1 12 := rfl
theorem oq_X12_signs_53 : cw_ho 198 53 (.ifCond .eq 7) 3 0 0 0 := rfl
theorem oq_X12_signs_56 : cw_ho 198 56 (.iconst 3) 1 0 0 0 := rfl
theorem oq_X12_signs_57 : cw_ho 198 57 (.goto 90) 3 0 0 0 := rfl
theorem oq_X12_signs_60 : cw_ho 198 60 (.aload_n 0) 1 0 0 0 := rfl
theorem oq_X12_signs_61 : cw_ho 198 61 (.bipush 22) 2 0 0 0 := rfl
theorem oq_X12_signs_63 : cw_ho 198 63 (.invokevirtual 281) 3 166 1 12 := rfl
theorem oq_X12_signs_66 : cw_ho 198 66 (.ifCond .eq 7) 3 0 0 0 := rfl
theorem oq_X12_signs_69 : cw_ho 198 69 (.iconst 4) 1 0 0 0 := rfl
theorem oq_X12_signs_70 : cw_ho 198 70 (.goto 77) 3 0 0 0 := rfl
theorem oq_X12_signs_73 : cw_ho 198 73 (.aload_n 0) 1 0 0 0 := rfl
theorem oq_X12_signs_74 : cw_ho 198 74 (.getfield 154) 3 12 8 0 := rfl
theorem oq_X12_signs_77 : cw_ho 198 77 (.iconst 5) 1 0 0 0 := rfl
theorem oq_X12_signs_78 : cw_ho 198 78 (.if_icmp .ne 12) 3 0 0 0 := rfl
theorem oq_X12_signs_81 : cw_ho 198 81 (.iconst 5) 1 0 0 0 := rfl
theorem oq_X12_signs_82 : cw_ho 198 82 (.aload_n 0) 1 0 0 0 := rfl
theorem oq_X12_signs_83 : cw_ho 198 83 (.getfield 165) 3 12 9 0 := rfl
theorem oq_X12_signs_86 : cw_ho 198 86 (.iadd) 1 0 0 0 := rfl
theorem oq_X12_signs_87 : cw_ho 198 87 (.goto 60) 3 0 0 0 := rfl
theorem oq_X12_signs_90 : cw_ho 198 90 (.aload_n 0) 1 0 0 0 := rfl
theorem oq_X12_signs_91 : cw_ho 198 91 (.bipush 43) 2 0 0 0 := rfl
theorem oq_X12_signs_93 : cw_ho 198 93 (.invokevirtual 190) 3 167 1 12 := rfl
theorem oq_X12_signs_96 : cw_ho 198 96 (.ifCond .eq 8) 3 0 0 0 := rfl
theorem oq_X12_signs_99 : cw_ho 198 99 (.bipush 11) 2 0 0 0 := rfl
theorem oq_X12_signs_101 : cw_ho 198 101 (.goto 46) 3 0 0 0 := rfl
theorem oq_X12_signs_104 : cw_ho 198 104 (.aload_n 0) 1 0 0 0 := rfl
theorem oq_X12_signs_105 : cw_ho 198 105 (.bipush 45) 2 0 0 0 := rfl
theorem oq_X12_signs_107 : cw_ho 198 107 (.invokevirtual 190) 3 167 1 12 := rfl
theorem oq_X12_signs_110 : cw_ho 198 110 (.ifCond .eq 8) 3 0 0 0 := rfl
theorem oq_X12_signs_113 : cw_ho 198 113 (.bipush 12) 2 0 0 0 := rfl
theorem oq_X12_signs_115 : cw_ho 198 115 (.goto 32) 3 0 0 0 := rfl
theorem oq_X12_signs_118 : cw_ho 198 118 (.aload_n 0) 1 0 0 0 := rfl
theorem oq_X12_signs_119 : cw_ho 198 119 (.bipush 42) 2 0 0 0 := rfl
theorem oq_X12_signs_121 : cw_ho 198 121 (.invokevirtual 190) 3 167 1 12 := rfl
theorem oq_X12_signs_124 : cw_ho 198 124 (.ifCond .eq 8) 3 0 0 0 := rfl
theorem oq_X12_signs_127 : cw_ho 198 127 (.bipush 13) 2 0 0 0 := rfl
theorem oq_X12_signs_129 : cw_ho 198 129 (.goto 18) 3 0 0 0 := rfl
theorem oq_X12_signs_132 : cw_ho 198 132 (.aload_n 0) 1 0 0 0 := rfl
theorem oq_X12_signs_133 : cw_ho 198 133 (.bipush 47) 2 0 0 0 := rfl
theorem oq_X12_signs_135 : cw_ho 198 135 (.invokevirtual 190) 3 167 1 12 := rfl
theorem oq_X12_signs_138 : cw_ho 198 138 (.ifCond .eq 8) 3 0 0 0 := rfl
theorem oq_X12_signs_141 : cw_ho 198 141 (.bipush 14) 2 0 0 0 := rfl
theorem oq_X12_signs_143 : cw_ho 198 143 (.goto 4) 3 0 0 0 := rfl
theorem oq_X12_signs_146 : cw_ho 198 146 (.iconst 0) 1 0 0 0 := rfl
theorem oq_X12_signs_147 : cw_ho 198 147 (.istore_n 1) 1 0 0 0 := rfl
theorem oq_X12_signs_148 : cw_ho 198 148 (.iload_n 1) 1 0 0 0 := rfl
theorem oq_X12_signs_149 : cw_ho 198 149 (.ifCond .ne 9) 3 0 0 0 := rfl
theorem oq_X12_signs_152 : cw_ho 198 152 (.aload_n 0) 1 0 0 0 := rfl
theorem oq_X12_signs_153 : cw_ho 198 153 (.iconst 1) 1 0 0 0 := rfl
theorem oq_X12_signs_154 : cw_ho 198 154 (.invokevirtual 177) 3 159 1 12 := rfl
theorem oq_X12_signs_157 : cw_ho 198 157 (.ireturn) 1 0 0 0 := rfl
theorem oq_X12_signs_158 : cw_ho 198 158 (.aload_n 0) 1 0 0 0 := rfl
theorem oq_X12_signs_159 : cw_ho 198 159 (.iload_n 1) 1 0 0 0 := rfl
theorem oq_X12_signs_160 : cw_ho 198 160 (.invokestatic 321) 3 191 1 0 := rfl
theorem oq_X12_signs_163 : cw_ho 198 163 (.iconst 4) 1 0 0 0 := rfl
theorem oq_X12_signs_164 : cw_ho 198 164 (.if_icmp .ne 7) 3 0 0 0 := rfl
theorem oq_X12_signs_167 : cw_ho 198 167 (.iconst 5) 1 0 0 0 := rfl
theorem oq_X12_signs_168 : cw_ho 198 168 (.goto 7) 3 0 0 0 := rfl
theorem oq_X12_signs_171 : cw_ho 198 171 (.iload_n 1) 1 0 0 0 := rfl
theorem oq_X12_signs_172 : cw_ho 198 172 (.invokestatic 321) 3 191 1 0 := rfl
theorem oq_X12_signs_175 : cw_ho 198 175 (.invokevirtual 346) 3 194 1 12 := rfl
theorem oq_X12_signs_178 : cw_ho 198 178 (.iload_n 1) 1 0 0 0 := rfl
theorem oq_X12_signs_179 : cw_ho 198 179 (.invokestatic 321) 3 191 1 0 := rfl
theorem oq_X12_signs_182 : cw_ho 198 182 (.iconst 4) 1 0 0 0 := rfl
theorem oq_X12_signs_183 : cw_ho 198 183 (.if_icmp .ne 34) 3 0 0 0 := rfl
theorem oq_X12_signs_186 : cw_ho 198 186 (.aload_n 0) 1 0 0 0 := rfl
theorem oq_X12_signs_187 : cw_ho 198 187 (.getfield 318) 3 12 37 0 := rfl
theorem oq_X12_signs_190 : cw_ho 198 190 (.ifCond .le 27) 3 0 0 0 := rfl
theorem oq_X12_signs_193 : cw_ho 198 193 (.aload_n 0) 1 0 0 0 := rfl
theorem oq_X12_signs_194 : cw_ho 198 194 (.getfield 63) 3 12 35 4 := rfl
theorem oq_X12_signs_197 : cw_ho 198 197 (.aload_n 0) 1 0 0 0 := rfl
theorem oq_X12_signs_198 : cw_ho 198 198 (.getfield 318) 3 12 37 0 := rfl
theorem oq_X12_signs_201 : cw_ho 198 201 (.iconst 1) 1 0 0 0 := rfl
theorem oq_X12_signs_202 : cw_ho 198 202 (.isub) 1 0 0 0 := rfl
theorem oq_X12_signs_203 : cw_ho 198 203 (.iaload) 1 0 0 0 := rfl
theorem oq_X12_signs_204 : cw_ho 198 204 (.invokestatic 321) 3 191 1 0 := rfl
theorem oq_X12_signs_207 : cw_ho 198 207 (.iconst 4) 1 0 0 0 := rfl
theorem oq_X12_signs_208 : cw_ho 198 208 (.if_icmp .ne 9) 3 0 0 0 := rfl
theorem oq_X12_signs_211 : cw_ho 198 211 (.aload_n 0) 1 0 0 0 := rfl
theorem oq_X12_signs_212 : cw_ho 198 212 (.iconst 1) 1 0 0 0 := rfl
theorem oq_X12_signs_213 : cw_ho 198 213 (.invokevirtual 177) 3 159 1 12 := rfl
theorem oq_X12_signs_216 : cw_ho 198 216 (.ireturn) 1 0 0 0 := rfl
theorem oq_X12_signs_217 : cw_ho 198 217 (.aload_n 0) 1 0 0 0 := rfl
theorem oq_X12_signs_218 : cw_ho 198 218 (.invokevirtual 340) 3 195 0 12 := rfl
theorem oq_X12_signs_221 : cw_ho 198 221 (.ifCond .ne 5) 3 0 0 0 := rfl
theorem oq_X12_signs_224 : cw_ho 198 224 (.iconst 0) 1 0 0 0 := rfl
theorem oq_X12_signs_225 : cw_ho 198 225 (.ireturn) 1 0 0 0 := rfl
theorem oq_X12_signs_226 : cw_ho 198 226 (.aload_n 0) 1 0 0 0 := rfl
theorem oq_X12_signs_227 : cw_ho 198 227 (.iload_n 1) 1 0 0 0 := rfl
theorem oq_X12_signs_228 : cw_ho 198 228 (.invokevirtual 334) 3 196 1 12 := rfl
theorem oq_X12_signs_231 : cw_ho 198 231 (.aload_n 0) 1 0 0 0 := rfl
theorem oq_X12_signs_232 : cw_ho 198 232 (.iconst 1) 1 0 0 0 := rfl
theorem oq_X12_signs_233 : cw_ho 198 233 (.putfield 343) 3 12 41 2 := rfl
theorem oq_X12_signs_236 : cw_ho 198 236 (.aload_n 0) 1 0 0 0 := rfl
theorem oq_X12_signs_237 : cw_ho 198 237 (.iload_n 1) 1 0 0 0 := rfl
theorem oq_X12_signs_238 : cw_ho 198 238 (.invokestatic 321) 3 191 1 0 := rfl
theorem oq_X12_signs_241 : cw_ho 198 241 (.iconst 3) 1 0 0 0 := rfl
theorem oq_X12_signs_242 : cw_ho 198 242 (.if_icmp .ge 7) 3 0 0 0 := rfl
theorem oq_X12_signs_245 : cw_ho 198 245 (.iconst 1) 1 0 0 0 := rfl
theorem oq_X12_signs_246 : cw_ho 198 246 (.goto 4) 3 0 0 0 := rfl
theorem oq_X12_signs_249 : cw_ho 198 249 (.iconst 0) 1 0 0 0 := rfl
theorem oq_X12_signs_250 : cw_ho 198 250 (.putfield 337) 3 12 42 2 := rfl
theorem oq_X12_signs_253 : cw_ho 198 253 (.aload_n 0) 1 0 0 0 := rfl
theorem oq_X12_signs_254 : cw_ho 198 254 (.invokevirtual 187) 3 163 0 12 := rfl
theorem oq_X12_signs_257 : cw_ho 198 257 (.iconst 1) 1 0 0 0 := rfl
theorem oq_X12_signs_258 : cw_ho 198 258 (.ireturn) 1 0 0 0 := rfl
set_option maxHeartbeats 6000000 in
theorem sg_217 {h0 : cv_H} (hX : cw_Xok X) (hQ : ∀ (x : Int32) h', cw_T G h' → cw_PQ G c kd s h' → cw_Fr cw_Ds cw_sh mk_lf h0 h' → (x.toInt = 0 ∨ x.toInt = 1 ∧ sn_I h' ∧ ri_at h0 111 8 ≠ 0 ∧ (ri_at h' 111 8 = 0 ∨ c < ri_at h' 111 7)) → Q (some (cv_i x), h')) (h : cv_H) (Th : cw_T G h) (Ph : cw_PQ G c kd s h) (Fh : cw_Fr cw_Ds cw_sh mk_lf h0 h) (hI : sn_I h) (hwn : ri_at h 111 41 = 0) (hz : ri_at h0 111 8 ≠ 0) (k : Int32) (hk : 3 ≤ k.toInt ∧ k.toInt ≤ 14) (L : cv_L) (q0 : cv_get L 0 = some (cv_r 111)) (q1 : cv_get L 1 = some (cv_i k)) : cw_X X 198 Q 217 L [] h := by
  have hnn := sn_nn (ri_at h 128) (ri_at h 111 37).toNat
  obtain ⟨_, _, rc1, lc1, uc1⟩ := fi_counted Th
  obtain ⟨_, _, rb1, lb1, ub1⟩ := fi_brackets Th
  have hI' := hI
  obtain ⟨i0, i1, i2, i3, i4, i5, i6⟩ := hI'
  clear i1
  refine ex_al oq_X12_signs_217 q0 ?_
  refine ex_cv oq_X12_signs_218 (by decide) Th (k := 111) (d := 12) (as := []) (stk := []) rfl rfl rfl rfl rfl rfl ⟨rfl, rfl⟩ (R := fun o => ∃ (x : Int32) (hb : cv_H), o = (some (cv_i x), hb) ∧ cw_T G hb ∧ cw_PQ G c kd s hb ∧ cw_Fr cw_Ds cw_sh kk_X12_isCounted.2.2.2.2.2.1 h hb ∧ (x.toInt = 0 ∨ x.toInt = 1 ∧ ri_at h 111 40 ≤ 63 ∧ ri_at hb 111 40 = ri_at h 111 40 + 1)) (sp_isCounted Th Ph (fun x h a0 a1 a2 a3 => ⟨x, h, rfl, a0, a1, a2, a3⟩)) (fun o ho => ?_)
  obtain ⟨x102, h101, rfl, Th101, Ph101, Ch101, dx102⟩ := ho
  show cw_X _ _ _ _ _ [cv_i x102] h101
  have Fh101 : cw_Fr cw_Ds cw_sh mk_lf h0 h101 := cw_Fr_tr Fh (cw_Fr_mono (by decide +kernel) Ch101)
  have eh101_37 : ri_at h101 111 37 = ri_at h 111 37 := ri_frf Ch101 (d := 12) rfl rfl (by decide +kernel)
  have eh101_38 : ri_at h101 111 38 = ri_at h 111 38 := ri_frf Ch101 (d := 12) rfl rfl (by decide +kernel)
  have eh101_19 : ri_at h101 111 19 = ri_at h 111 19 := ri_frf Ch101 (d := 12) rfl rfl (by decide +kernel)
  have eh101_39 : ri_at h101 111 39 = ri_at h 111 39 := ri_frf Ch101 (d := 12) rfl rfl (by decide +kernel)
  have eh101_41 : ri_at h101 111 41 = ri_at h 111 41 := ri_frf Ch101 (d := 12) rfl rfl (by decide +kernel)
  have wth101 : ri_at h101 128 = ri_at h 128 := funext fun i => ri_frr Ch101 (d := 67) rfl rfl (by decide +kernel)
  refine ex_if0 oq_X12_signs_221 (t := 226) rfl rfl (fun (c103 : ¬ x102.toInt = 0) => ?_) (fun (c103 : ¬ (¬ x102.toInt = 0)) => ?_)
  · refine ex_al oq_X12_signs_226 q0 ?_
    refine ex_il oq_X12_signs_227 q1 ?_
    refine ex_cv oq_X12_signs_228 (by decide) Th101 (k := 111) (d := 12) (as := [cv_i k]) (stk := []) rfl rfl rfl rfl rfl rfl ⟨rfl, rfl⟩ (R := fun o => ∃ hb : cv_H, o = (none, hb) ∧ cw_T G hb ∧ cw_Fr cw_Ds cw_sh mk_wf h101 hb ∧ ri_at hb 111 37 = ri_at h101 111 37 + 1 ∧ ri_at hb 128 (ri_at h101 111 37).toNat = k.toInt ∧ (∀ i, i ≠ (ri_at h101 111 37).toNat → ri_at hb 128 i = ri_at h101 128 i)) (sp_waitsFor Th101 k (by omega) (fun h a0 a1 a2 a3 a4 => ⟨h, rfl, a0, a1, a2, a3, a4⟩)) (fun o ho => ?_)
    obtain ⟨h104, rfl, Th104, Ch104, eh104_37, toph104, othh104⟩ := ho
    show cw_X _ _ _ _ _ [] h104
    have Fh104 : cw_Fr cw_Ds cw_sh mk_lf h0 h104 := cw_Fr_tr Fh101 (cw_Fr_mono (by decide +kernel) Ch104)
    have eh104_38 : ri_at h104 111 38 = ri_at h101 111 38 := ri_frf Ch104 (d := 12) rfl rfl (by decide +kernel)
    have eh104_19 : ri_at h104 111 19 = ri_at h101 111 19 := ri_frf Ch104 (d := 12) rfl rfl (by decide +kernel)
    have eh104_40 : ri_at h104 111 40 = ri_at h101 111 40 := ri_frf Ch104 (d := 12) rfl rfl (by decide +kernel)
    have eh104_39 : ri_at h104 111 39 = ri_at h101 111 39 := ri_frf Ch104 (d := 12) rfl rfl (by decide +kernel)
    have eh104_41 : ri_at h104 111 41 = ri_at h101 111 41 := ri_frf Ch104 (d := 12) rfl rfl (by decide +kernel)
    have Ph104 : cw_PQ G c kd s h104 := pq_fr (by decide +kernel) Ph101 Ch104
    refine ex_al oq_X12_signs_231 q0 ?_
    refine ex_ic oq_X12_signs_232 (m := 1) (by decide) (fun x105 hx105 => ?_)
    refine ex_pfb oq_X12_signs_233 Th104 (k := 111) (d := 12) rfl rfl rfl (by omega) (by omega) (fun h106 Th106 wh106 => ?_)
    have Fh106 : cw_Fr cw_Ds cw_sh mk_lf h0 h106 := cw_Fr_tr Fh104 (cw_Fr_wrf wh106 (k := 111) (d := 12) rfl rfl (by decide +kernel))
    have eh106_37 : ri_at h106 111 37 = ri_at h104 111 37 := ri_ne wh106 (by decide)
    have eh106_38 : ri_at h106 111 38 = ri_at h104 111 38 := ri_ne wh106 (by decide)
    have eh106_19 : ri_at h106 111 19 = ri_at h104 111 19 := ri_ne wh106 (by decide)
    have eh106_40 : ri_at h106 111 40 = ri_at h104 111 40 := ri_ne wh106 (by decide)
    have eh106_39 : ri_at h106 111 39 = ri_at h104 111 39 := ri_ne wh106 (by decide)
    have eh106_41 : ri_at h106 111 41 = x105.toInt := ri_self wh106
    refine ex_al oq_X12_signs_236 q0 ?_
    refine ex_il oq_X12_signs_237 q1 ?_
    refine ex_cs oq_X12_signs_238 (by decide) (as := [cv_i k]) (stk := [cv_r 111]) rfl rfl rfl ⟨rfl, rfl⟩ (R := fun o => ∃ x : Int32, o = (some (cv_i x), h106) ∧ (0 ≤ x.toInt ∧ x.toInt ≤ 6 ∧ (x.toInt = 0 → k.toInt ≠ 2 ∧ k.toInt < 3) ∧ (k.toInt = 2 → x.toInt = 3) ∧ (3 ≤ k.toInt → 1 ≤ x.toInt) ∧ (k.toInt = 0 → x.toInt = 0))) (sp_rank Th106 k  (fun x hx => ⟨x, rfl, hx⟩)) (fun ox107 hox107 => ?_)
    obtain ⟨x107, rfl, hx107⟩ := hox107
    show cw_X _ _ _ _ _ [cv_i x107, cv_r 111] h106
    refine ex_ic oq_X12_signs_241 (m := 3) (by decide) (fun x108 hx108 => ?_)
    refine ex_if oq_X12_signs_242 (t := 249) rfl rfl (fun (c109 : x108.toInt ≤ x107.toInt) => ?_) (fun (c109 : ¬ (x108.toInt ≤ x107.toInt)) => ?_)
    · refine ex_ic oq_X12_signs_249 (m := 0) (by decide) (fun x110 hx110 => ?_)
      refine ex_pfb oq_X12_signs_250 Th106 (k := 111) (d := 12) rfl rfl rfl (by omega) (by omega) (fun h111 Th111 wh111 => ?_)
      have Fh111 : cw_Fr cw_Ds cw_sh mk_lf h0 h111 := cw_Fr_tr Fh106 (cw_Fr_wrf wh111 (k := 111) (d := 12) rfl rfl (by decide +kernel))
      have eh111_37 : ri_at h111 111 37 = ri_at h106 111 37 := ri_ne wh111 (by decide)
      have eh111_38 : ri_at h111 111 38 = ri_at h106 111 38 := ri_ne wh111 (by decide)
      have eh111_19 : ri_at h111 111 19 = ri_at h106 111 19 := ri_ne wh111 (by decide)
      have eh111_40 : ri_at h111 111 40 = ri_at h106 111 40 := ri_ne wh111 (by decide)
      have eh111_39 : ri_at h111 111 39 = ri_at h106 111 39 := ri_ne wh111 (by decide)
      have eh111_41 : ri_at h111 111 41 = ri_at h106 111 41 := ri_ne wh111 (by decide)
      refine ex_al oq_X12_signs_253 q0 ?_
      have Ph106 : cw_PQ G c kd s h106 := pq_wf Ph104 wh106 (by decide)
      have Ph111 : cw_PQ G c kd s h111 := pq_wf Ph106 wh111 (by decide)
      refine ex_cv oq_X12_signs_254 (by decide) Th111 (k := 111) (d := 12) (as := []) (stk := []) rfl rfl rfl rfl rfl rfl ⟨rfl, rfl⟩ (R := fun o => ∃ hb : cv_H, o = (none, hb) ∧ cw_T G hb ∧ cw_PQ G c kd s hb ∧ cw_Fr cw_Ds cw_sh kk_X12_token.2.2.2.2.2.1 h111 hb ∧ (ri_at hb 111 8 = 0 ∨ c < ri_at hb 111 7)) (sp_tokenQ (cw_Xok_no2 hX) Th111 Ph111 (fun h a0 a1 a2 a3 => ⟨h, rfl, a0, a1, a2, a3⟩)) (fun o ho => ?_)
      obtain ⟨h112, rfl, Th112, Ph112, Ch112, prh112⟩ := ho
      show cw_X _ _ _ _ _ [] h112
      have Fh112 : cw_Fr cw_Ds cw_sh mk_lf h0 h112 := cw_Fr_tr Fh111 (cw_Fr_mono (by decide +kernel) Ch112)
      have eh112_37 : ri_at h112 111 37 = ri_at h111 111 37 := ri_frf Ch112 (d := 12) rfl rfl (by decide +kernel)
      have eh112_38 : ri_at h112 111 38 = ri_at h111 111 38 := ri_frf Ch112 (d := 12) rfl rfl (by decide +kernel)
      have eh112_19 : ri_at h112 111 19 = ri_at h111 111 19 := ri_frf Ch112 (d := 12) rfl rfl (by decide +kernel)
      have eh112_40 : ri_at h112 111 40 = ri_at h111 111 40 := ri_frf Ch112 (d := 12) rfl rfl (by decide +kernel)
      have eh112_39 : ri_at h112 111 39 = ri_at h111 111 39 := ri_frf Ch112 (d := 12) rfl rfl (by decide +kernel)
      have eh112_41 : ri_at h112 111 41 = ri_at h111 111 41 := ri_frf Ch112 (d := 12) rfl rfl (by decide +kernel)
      refine ex_ic oq_X12_signs_257 (m := 1) (by decide) (fun x113 hx113 => ?_)
      have eWa : ri_at h101 111 37 = ri_at h 111 37 := by omega
      have snp : sn_I h111 := by
        refine sn_push hI k.toInt (by omega) (by omega) ?_ (fun i hi => ?_) ?_ ?_ ?_ (by omega) (by omega)
        · rw [← eWa]; exact ((ri_ne wh111 (.inl (by decide))).trans (ri_ne wh106 (.inl (by decide)))).trans (toph104)
        · exact ((ri_ne wh111 (.inl (by decide))).trans (ri_ne wh106 (.inl (by decide)))).trans ((othh104 i (by omega)).trans (congrFun wth101 i))
        · rw [if_pos (by omega)]; omega
        · rw [if_neg (by omega)]; omega
        · rw [if_neg (by omega)]; omega
      have snf : sn_I h112 := sn_fr snp Ch112 (by decide +kernel)
      exact ex_retb oq_X12_signs_258 rfl (by omega) (by omega) (hQ x113 h112 Th112 Ph112 Fh112 (.inr ⟨by omega, snf, by omega, prh112⟩))
    · refine ex_ic oq_X12_signs_245 (m := 1) (by decide) (fun x114 hx114 => ?_)
      refine ex_go oq_X12_signs_246 (t := 250) rfl rfl ?_
      refine ex_pfb oq_X12_signs_250 Th106 (k := 111) (d := 12) rfl rfl rfl (by omega) (by omega) (fun h115 Th115 wh115 => ?_)
      have Fh115 : cw_Fr cw_Ds cw_sh mk_lf h0 h115 := cw_Fr_tr Fh106 (cw_Fr_wrf wh115 (k := 111) (d := 12) rfl rfl (by decide +kernel))
      have eh115_37 : ri_at h115 111 37 = ri_at h106 111 37 := ri_ne wh115 (by decide)
      have eh115_38 : ri_at h115 111 38 = ri_at h106 111 38 := ri_ne wh115 (by decide)
      have eh115_19 : ri_at h115 111 19 = ri_at h106 111 19 := ri_ne wh115 (by decide)
      have eh115_40 : ri_at h115 111 40 = ri_at h106 111 40 := ri_ne wh115 (by decide)
      have eh115_39 : ri_at h115 111 39 = ri_at h106 111 39 := ri_ne wh115 (by decide)
      have eh115_41 : ri_at h115 111 41 = ri_at h106 111 41 := ri_ne wh115 (by decide)
      refine ex_al oq_X12_signs_253 q0 ?_
      have Ph106 : cw_PQ G c kd s h106 := pq_wf Ph104 wh106 (by decide)
      have Ph115 : cw_PQ G c kd s h115 := pq_wf Ph106 wh115 (by decide)
      refine ex_cv oq_X12_signs_254 (by decide) Th115 (k := 111) (d := 12) (as := []) (stk := []) rfl rfl rfl rfl rfl rfl ⟨rfl, rfl⟩ (R := fun o => ∃ hb : cv_H, o = (none, hb) ∧ cw_T G hb ∧ cw_PQ G c kd s hb ∧ cw_Fr cw_Ds cw_sh kk_X12_token.2.2.2.2.2.1 h115 hb ∧ (ri_at hb 111 8 = 0 ∨ c < ri_at hb 111 7)) (sp_tokenQ (cw_Xok_no2 hX) Th115 Ph115 (fun h a0 a1 a2 a3 => ⟨h, rfl, a0, a1, a2, a3⟩)) (fun o ho => ?_)
      obtain ⟨h116, rfl, Th116, Ph116, Ch116, prh116⟩ := ho
      show cw_X _ _ _ _ _ [] h116
      have Fh116 : cw_Fr cw_Ds cw_sh mk_lf h0 h116 := cw_Fr_tr Fh115 (cw_Fr_mono (by decide +kernel) Ch116)
      have eh116_37 : ri_at h116 111 37 = ri_at h115 111 37 := ri_frf Ch116 (d := 12) rfl rfl (by decide +kernel)
      have eh116_38 : ri_at h116 111 38 = ri_at h115 111 38 := ri_frf Ch116 (d := 12) rfl rfl (by decide +kernel)
      have eh116_19 : ri_at h116 111 19 = ri_at h115 111 19 := ri_frf Ch116 (d := 12) rfl rfl (by decide +kernel)
      have eh116_40 : ri_at h116 111 40 = ri_at h115 111 40 := ri_frf Ch116 (d := 12) rfl rfl (by decide +kernel)
      have eh116_39 : ri_at h116 111 39 = ri_at h115 111 39 := ri_frf Ch116 (d := 12) rfl rfl (by decide +kernel)
      have eh116_41 : ri_at h116 111 41 = ri_at h115 111 41 := ri_frf Ch116 (d := 12) rfl rfl (by decide +kernel)
      refine ex_ic oq_X12_signs_257 (m := 1) (by decide) (fun x117 hx117 => ?_)
      have eWa : ri_at h101 111 37 = ri_at h 111 37 := by omega
      have snp : sn_I h115 := by
        refine sn_push hI k.toInt (by omega) (by omega) ?_ (fun i hi => ?_) ?_ ?_ ?_ (by omega) (by omega)
        · rw [← eWa]; exact ((ri_ne wh115 (.inl (by decide))).trans (ri_ne wh106 (.inl (by decide)))).trans (toph104)
        · exact ((ri_ne wh115 (.inl (by decide))).trans (ri_ne wh106 (.inl (by decide)))).trans ((othh104 i (by omega)).trans (congrFun wth101 i))
        · rw [if_pos (by omega)]; omega
        · rw [if_neg (by omega)]; omega
        · rw [if_neg (by omega)]; omega
      have snf : sn_I h116 := sn_fr snp Ch116 (by decide +kernel)
      exact ex_retb oq_X12_signs_258 rfl (by omega) (by omega) (hQ x117 h116 Th116 Ph116 Fh116 (.inr ⟨by omega, snf, by omega, prh116⟩))
  · refine ex_ic oq_X12_signs_224 (m := 0) (by decide) (fun x118 hx118 => ?_)
    exact ex_retb oq_X12_signs_225 rfl (by omega) (by omega) (hQ x118 h101 Th101 Ph101 Fh101 (.inl (by omega)))
set_option maxHeartbeats 6000000 in
theorem sg_178 {h0 : cv_H} (hX : cw_Xok X) (hQ : ∀ (x : Int32) h', cw_T G h' → cw_PQ G c kd s h' → cw_Fr cw_Ds cw_sh mk_lf h0 h' → (x.toInt = 0 ∨ x.toInt = 1 ∧ sn_I h' ∧ ri_at h0 111 8 ≠ 0 ∧ (ri_at h' 111 8 = 0 ∨ c < ri_at h' 111 7)) → Q (some (cv_i x), h')) (h : cv_H) (Th : cw_T G h) (Ph : cw_PQ G c kd s h) (Fh : cw_Fr cw_Ds cw_sh mk_lf h0 h) (hI : sn_I h) (hwn : ri_at h 111 41 = 0) (hz : ri_at h0 111 8 ≠ 0) (k : Int32) (hk : 3 ≤ k.toInt ∧ k.toInt ≤ 14) (L : cv_L) (q0 : cv_get L 0 = some (cv_r 111)) (q1 : cv_get L 1 = some (cv_i k)) : cw_X X 198 Q 178 L [] h := by
  have hnn := sn_nn (ri_at h 128) (ri_at h 111 37).toNat
  obtain ⟨_, _, rc1, lc1, uc1⟩ := fi_counted Th
  obtain ⟨_, _, rb1, lb1, ub1⟩ := fi_brackets Th
  have hI' := hI
  obtain ⟨i0, i1, i2, i3, i4, i5, i6⟩ := hI'
  clear i1
  refine ex_il oq_X12_signs_178 q1 ?_
  refine ex_cs oq_X12_signs_179 (by decide) (as := [cv_i k]) (stk := []) rfl rfl rfl ⟨rfl, rfl⟩ (R := fun o => ∃ x : Int32, o = (some (cv_i x), h) ∧ (0 ≤ x.toInt ∧ x.toInt ≤ 6 ∧ (x.toInt = 0 → k.toInt ≠ 2 ∧ k.toInt < 3) ∧ (k.toInt = 2 → x.toInt = 3) ∧ (3 ≤ k.toInt → 1 ≤ x.toInt) ∧ (k.toInt = 0 → x.toInt = 0))) (sp_rank Th k  (fun x hx => ⟨x, rfl, hx⟩)) (fun ox601 hox601 => ?_)
  obtain ⟨x601, rfl, hx601⟩ := hox601
  show cw_X _ _ _ _ _ [cv_i x601] h
  refine ex_ic oq_X12_signs_182 (m := 4) (by decide) (fun x602 hx602 => ?_)
  refine ex_if oq_X12_signs_183 (t := 217) rfl rfl (fun (c603 : ¬ x601.toInt = x602.toInt) => ?_) (fun (c603 : ¬ (¬ x601.toInt = x602.toInt)) => ?_)
  · exact sg_217 hX hQ h Th Ph Fh hI (by omega) (by omega) k (by omega) L q0 q1
  · refine ex_al oq_X12_signs_186 q0 ?_
    obtain ⟨x604, ax604, rx604, lx604, ux604⟩ := fi_waits Th
    refine ex_gf oq_X12_signs_187 Th (k := 111) (d := 12) rfl rfl ax604 ?_
    refine ex_if0 oq_X12_signs_190 (t := 217) rfl rfl (fun (c605 : x604.toInt ≤ 0) => ?_) (fun (c605 : ¬ (x604.toInt ≤ 0)) => ?_)
    · exact sg_217 hX hQ h Th Ph Fh hI (by omega) (by omega) k (by omega) L q0 q1
    · refine ex_al oq_X12_signs_193 q0 ?_
      refine ex_gf oq_X12_signs_194 Th (k := 111) (d := 12) rfl rfl (fr_wait Th) ?_
      refine ex_al oq_X12_signs_197 q0 ?_
      obtain ⟨x606, ax606, rx606, lx606, ux606⟩ := fi_waits Th
      refine ex_gf oq_X12_signs_198 Th (k := 111) (d := 12) rfl rfl ax606 ?_
      refine ex_ic oq_X12_signs_201 (m := 1) (by decide) (fun x607 hx607 => ?_)
      refine ex_sub oq_X12_signs_202 (by omega) (fun x608 hx608 => ?_)
      refine ex_ia1 oq_X12_signs_203 Th (k := 128) (d := 67) (j := ((ri_at h 111 37).toNat - 1)) rfl rfl (by omega) (by omega) (fun x609 hx609 lx609 ux609 => ?_)
      refine ex_cs oq_X12_signs_204 (by decide) (as := [cv_i x609]) (stk := []) rfl rfl rfl ⟨rfl, rfl⟩ (R := fun o => ∃ x : Int32, o = (some (cv_i x), h) ∧ (0 ≤ x.toInt ∧ x.toInt ≤ 6 ∧ (x.toInt = 0 → x609.toInt ≠ 2 ∧ x609.toInt < 3) ∧ (x609.toInt = 2 → x.toInt = 3) ∧ (3 ≤ x609.toInt → 1 ≤ x.toInt) ∧ (x609.toInt = 0 → x.toInt = 0))) (sp_rank Th x609  (fun x hx => ⟨x, rfl, hx⟩)) (fun ox610 hox610 => ?_)
      obtain ⟨x610, rfl, hx610⟩ := hox610
      show cw_X _ _ _ _ _ [cv_i x610] h
      refine ex_ic oq_X12_signs_207 (m := 4) (by decide) (fun x611 hx611 => ?_)
      refine ex_if oq_X12_signs_208 (t := 217) rfl rfl (fun (c612 : ¬ x610.toInt = x611.toInt) => ?_) (fun (c612 : ¬ (¬ x610.toInt = x611.toInt)) => ?_)
      · exact sg_217 hX hQ h Th Ph Fh hI (by omega) (by omega) k (by omega) L q0 q1
      · refine ex_al oq_X12_signs_211 q0 ?_
        refine ex_ic oq_X12_signs_212 (m := 1) (by decide) (fun x613 hx613 => ?_)
        refine ex_cv oq_X12_signs_213 (by decide) Th (k := 111) (d := 12) (as := [cv_i x613]) (stk := []) rfl rfl rfl rfl rfl rfl ⟨rfl, rfl⟩ (R := fun o => ∃ (x : Int32) (hb : cv_H), o = (some (cv_i x), hb) ∧ cw_T G hb ∧ cw_PQ G c kd s hb ∧ cw_Fr cw_Ds cw_sh kk_X12_wrong.2.2.2.2.2.1 h hb ∧ x.toInt = 0) (sp_wrong Th Ph x613 (fun x h a1 a2 a3 a4 => ⟨x, h, rfl, a1, a2, a3, a4⟩)) (fun o ho => ?_)
        obtain ⟨x615, h614, rfl, Th614, Ph614, Ch614, hx615⟩ := ho
        show cw_X _ _ _ _ _ [cv_i x615] h614
        have Fh614 : cw_Fr cw_Ds cw_sh mk_lf h0 h614 := cw_Fr_tr Fh (cw_Fr_mono (by decide +kernel) Ch614)
        have eh614_37 : ri_at h614 111 37 = ri_at h 111 37 := ri_frf Ch614 (d := 12) rfl rfl (by decide +kernel)
        have eh614_38 : ri_at h614 111 38 = ri_at h 111 38 := ri_frf Ch614 (d := 12) rfl rfl (by decide +kernel)
        have eh614_19 : ri_at h614 111 19 = ri_at h 111 19 := ri_frf Ch614 (d := 12) rfl rfl (by decide +kernel)
        have eh614_40 : ri_at h614 111 40 = ri_at h 111 40 := ri_frf Ch614 (d := 12) rfl rfl (by decide +kernel)
        have eh614_39 : ri_at h614 111 39 = ri_at h 111 39 := ri_frf Ch614 (d := 12) rfl rfl (by decide +kernel)
        have eh614_41 : ri_at h614 111 41 = ri_at h 111 41 := ri_frf Ch614 (d := 12) rfl rfl (by decide +kernel)
        exact ex_retb oq_X12_signs_216 rfl (by omega) (by omega) (hQ x615 h614 Th614 Ph614 Fh614 (.inl (by omega)))
set_option maxHeartbeats 6000000 in
theorem sg_158 {h0 : cv_H} (hX : cw_Xok X) (hQ : ∀ (x : Int32) h', cw_T G h' → cw_PQ G c kd s h' → cw_Fr cw_Ds cw_sh mk_lf h0 h' → (x.toInt = 0 ∨ x.toInt = 1 ∧ sn_I h' ∧ ri_at h0 111 8 ≠ 0 ∧ (ri_at h' 111 8 = 0 ∨ c < ri_at h' 111 7)) → Q (some (cv_i x), h')) (h : cv_H) (Th : cw_T G h) (Ph : cw_PQ G c kd s h) (Fh : cw_Fr cw_Ds cw_sh mk_lf h0 h) (hI : sn_I h) (hwn : ri_at h 111 41 = 0) (hz : ri_at h0 111 8 ≠ 0) (k : Int32) (hk : 3 ≤ k.toInt ∧ k.toInt ≤ 14) (L : cv_L) (q0 : cv_get L 0 = some (cv_r 111)) (q1 : cv_get L 1 = some (cv_i k)) : cw_X X 198 Q 158 L [] h := by
  have hnn := sn_nn (ri_at h 128) (ri_at h 111 37).toNat
  obtain ⟨_, _, rc1, lc1, uc1⟩ := fi_counted Th
  obtain ⟨_, _, rb1, lb1, ub1⟩ := fi_brackets Th
  have hI' := hI
  obtain ⟨i0, i1, i2, i3, i4, i5, i6⟩ := hI'
  clear i1
  refine ex_al oq_X12_signs_158 q0 ?_
  refine ex_il oq_X12_signs_159 q1 ?_
  refine ex_cs oq_X12_signs_160 (by decide) (as := [cv_i k]) (stk := [cv_r 111]) rfl rfl rfl ⟨rfl, rfl⟩ (R := fun o => ∃ x : Int32, o = (some (cv_i x), h) ∧ (0 ≤ x.toInt ∧ x.toInt ≤ 6 ∧ (x.toInt = 0 → k.toInt ≠ 2 ∧ k.toInt < 3) ∧ (k.toInt = 2 → x.toInt = 3) ∧ (3 ≤ k.toInt → 1 ≤ x.toInt) ∧ (k.toInt = 0 → x.toInt = 0))) (sp_rank Th k  (fun x hx => ⟨x, rfl, hx⟩)) (fun ox1101 hox1101 => ?_)
  obtain ⟨x1101, rfl, hx1101⟩ := hox1101
  show cw_X _ _ _ _ _ [cv_i x1101, cv_r 111] h
  refine ex_ic oq_X12_signs_163 (m := 4) (by decide) (fun x1102 hx1102 => ?_)
  refine ex_if oq_X12_signs_164 (t := 171) rfl rfl (fun (c1103 : ¬ x1101.toInt = x1102.toInt) => ?_) (fun (c1103 : ¬ (¬ x1101.toInt = x1102.toInt)) => ?_)
  · refine ex_il oq_X12_signs_171 q1 ?_
    refine ex_cs oq_X12_signs_172 (by decide) (as := [cv_i k]) (stk := [cv_r 111]) rfl rfl rfl ⟨rfl, rfl⟩ (R := fun o => ∃ x : Int32, o = (some (cv_i x), h) ∧ (0 ≤ x.toInt ∧ x.toInt ≤ 6 ∧ (x.toInt = 0 → k.toInt ≠ 2 ∧ k.toInt < 3) ∧ (k.toInt = 2 → x.toInt = 3) ∧ (3 ≤ k.toInt → 1 ≤ x.toInt) ∧ (k.toInt = 0 → x.toInt = 0))) (sp_rank Th k  (fun x hx => ⟨x, rfl, hx⟩)) (fun ox1104 hox1104 => ?_)
    obtain ⟨x1104, rfl, hx1104⟩ := hox1104
    show cw_X _ _ _ _ _ [cv_i x1104, cv_r 111] h
    refine ex_cv oq_X12_signs_175 (by decide) Th (k := 111) (d := 12) (as := [cv_i x1104]) (stk := []) rfl rfl rfl rfl rfl rfl ⟨rfl, rfl⟩ (R := fun o => ∃ hb : cv_H, o = (none, hb) ∧ cw_T G hb ∧ cw_PP G hb ∧ cw_Fr cw_Ds cw_sh mk_bi h hb ∧ sn_I hb ∧ ri_at hb 111 41 = 0 ∧ (ri_at hb 111 37 ≤ 0 ∨ (x1104.toInt = 1 → 1 ≤ ri_at hb 111 37 → ri_at hb 128 ((ri_at hb 111 37).toNat - 1) = 0))) (sp_bind Th Ph.1 hI (by omega) x1104 (by omega) (fun h a0 a1 a2 a3 a4 a5 => ⟨h, rfl, a0, a1, a2, a3, a4, a5⟩)) (fun o ho => ?_)
    obtain ⟨h1105, rfl, Th1105, PPh1105, Ch1105, snh1105, eh1105_41, tph1105⟩ := ho
    show cw_X _ _ _ _ _ [] h1105
    have Fh1105 : cw_Fr cw_Ds cw_sh mk_lf h0 h1105 := cw_Fr_tr Fh (cw_Fr_mono (by decide +kernel) Ch1105)
    have eh1105_40 : ri_at h1105 111 40 = ri_at h 111 40 := ri_frf Ch1105 (d := 12) rfl rfl (by decide +kernel)
    have eh1105_39 : ri_at h1105 111 39 = ri_at h 111 39 := ri_frf Ch1105 (d := 12) rfl rfl (by decide +kernel)
    have Ph1105 : cw_PQ G c kd s h1105 := ⟨PPh1105, by
      rw [ri_frf Ch1105 (k := 111) (d := 12) (i := 6) rfl rfl (by decide +kernel), ri_frf Ch1105 (k := 111) (d := 12) (i := 7) rfl rfl (by decide +kernel), ri_frf Ch1105 (k := 111) (d := 12) (i := 8) rfl rfl (by decide +kernel)]
      exact Ph.2⟩
    exact sg_178 hX hQ h1105 Th1105 Ph1105 Fh1105 snh1105 (by omega) (by omega) k (by omega) L q0 q1
  · refine ex_ic oq_X12_signs_167 (m := 5) (by decide) (fun x1106 hx1106 => ?_)
    refine ex_go oq_X12_signs_168 (t := 175) rfl rfl ?_
    refine ex_cv oq_X12_signs_175 (by decide) Th (k := 111) (d := 12) (as := [cv_i x1106]) (stk := []) rfl rfl rfl rfl rfl rfl ⟨rfl, rfl⟩ (R := fun o => ∃ hb : cv_H, o = (none, hb) ∧ cw_T G hb ∧ cw_PP G hb ∧ cw_Fr cw_Ds cw_sh mk_bi h hb ∧ sn_I hb ∧ ri_at hb 111 41 = 0 ∧ (ri_at hb 111 37 ≤ 0 ∨ (x1106.toInt = 1 → 1 ≤ ri_at hb 111 37 → ri_at hb 128 ((ri_at hb 111 37).toNat - 1) = 0))) (sp_bind Th Ph.1 hI (by omega) x1106 (by omega) (fun h a0 a1 a2 a3 a4 a5 => ⟨h, rfl, a0, a1, a2, a3, a4, a5⟩)) (fun o ho => ?_)
    obtain ⟨h1107, rfl, Th1107, PPh1107, Ch1107, snh1107, eh1107_41, tph1107⟩ := ho
    show cw_X _ _ _ _ _ [] h1107
    have Fh1107 : cw_Fr cw_Ds cw_sh mk_lf h0 h1107 := cw_Fr_tr Fh (cw_Fr_mono (by decide +kernel) Ch1107)
    have eh1107_40 : ri_at h1107 111 40 = ri_at h 111 40 := ri_frf Ch1107 (d := 12) rfl rfl (by decide +kernel)
    have eh1107_39 : ri_at h1107 111 39 = ri_at h 111 39 := ri_frf Ch1107 (d := 12) rfl rfl (by decide +kernel)
    have Ph1107 : cw_PQ G c kd s h1107 := ⟨PPh1107, by
      rw [ri_frf Ch1107 (k := 111) (d := 12) (i := 6) rfl rfl (by decide +kernel), ri_frf Ch1107 (k := 111) (d := 12) (i := 7) rfl rfl (by decide +kernel), ri_frf Ch1107 (k := 111) (d := 12) (i := 8) rfl rfl (by decide +kernel)]
      exact Ph.2⟩
    exact sg_178 hX hQ h1107 Th1107 Ph1107 Fh1107 snh1107 (by omega) (by omega) k (by omega) L q0 q1
set_option maxHeartbeats 6000000 in
theorem sp_signs {h0 : cv_H} (hX : cw_Xok X) (hQ : ∀ (x : Int32) h', cw_T G h' → cw_PQ G c kd s h' → cw_Fr cw_Ds cw_sh mk_lf h0 h' → (x.toInt = 0 ∨ x.toInt = 1 ∧ sn_I h' ∧ ri_at h0 111 8 ≠ 0 ∧ (ri_at h' 111 8 = 0 ∨ c < ri_at h' 111 7)) → Q (some (cv_i x), h')) (h : cv_H) (Th : cw_T G h) (Ph : cw_PQ G c kd s h) (Fh : cw_Fr cw_Ds cw_sh mk_lf h0 h) (hI : sn_I h) (hwn : ri_at h 111 41 = 0) (ek : ri_at h 111 8 = ri_at h0 111 8) : cw_X X 198 Q 0 (cv_ent 0 [cv_r 111]) [] h := by
  have hnn := sn_nn (ri_at h 128) (ri_at h 111 37).toNat
  obtain ⟨_, _, rc1, lc1, uc1⟩ := fi_counted Th
  obtain ⟨_, _, rb1, lb1, ub1⟩ := fi_brackets Th
  have hI' := hI
  obtain ⟨i0, i1, i2, i3, i4, i5, i6⟩ := hI'
  clear i1
  have tk5 := Ph.1.2.1.2.2
  refine ex_al oq_X12_signs_0 rfl ?_
  refine ex_bi oq_X12_signs_1 (m := 41) (by decide) (fun x2001 hx2001 => ?_)
  refine ex_cv oq_X12_signs_3 (by decide) Th (k := 111) (d := 12) (as := [cv_i x2001]) (stk := []) rfl rfl rfl rfl rfl rfl ⟨rfl, rfl⟩ (R := fun o => ∃ x : Int32, o = (some (cv_i x), h) ∧ (x.toInt = 1 ∧ (ri_at h 111 8 = 4 ∧ ri_at h 111 9 = x2001.toInt) ∨ x.toInt = 0 ∧ ¬ (ri_at h 111 8 = 4 ∧ ri_at h 111 9 = x2001.toInt))) (sp_isSign Th x2001  (fun x hx => ⟨x, rfl, hx⟩)) (fun ox2002 hox2002 => ?_)
  obtain ⟨x2002, rfl, hx2002⟩ := hox2002
  show cw_X _ _ _ _ _ [cv_i x2002] h
  refine ex_if0 oq_X12_signs_6 (t := 47) rfl rfl (fun (c2003 : x2002.toInt = 0) => ?_) (fun (c2003 : ¬ (x2002.toInt = 0)) => ?_)
  · refine ex_al oq_X12_signs_47 rfl ?_
    refine ex_bi oq_X12_signs_48 (m := 21) (by decide) (fun x2004 hx2004 => ?_)
    refine ex_cv oq_X12_signs_50 (by decide) Th (k := 111) (d := 12) (as := [cv_i x2004]) (stk := []) rfl rfl rfl rfl rfl rfl ⟨rfl, rfl⟩ (R := fun o => ∃ x : Int32, o = (some (cv_i x), h) ∧ (x.toInt = 1 ∧ (ri_at h 111 8 = 1 ∧ ri_at h 111 9 = x2004.toInt) ∨ x.toInt = 0 ∧ ¬ (ri_at h 111 8 = 1 ∧ ri_at h 111 9 = x2004.toInt))) (sp_isKey Th x2004  (fun x hx => ⟨x, rfl, hx⟩)) (fun ox2005 hox2005 => ?_)
    obtain ⟨x2005, rfl, hx2005⟩ := hox2005
    show cw_X _ _ _ _ _ [cv_i x2005] h
    refine ex_if0 oq_X12_signs_53 (t := 60) rfl rfl (fun (c2006 : x2005.toInt = 0) => ?_) (fun (c2006 : ¬ (x2005.toInt = 0)) => ?_)
    · refine ex_al oq_X12_signs_60 rfl ?_
      refine ex_bi oq_X12_signs_61 (m := 22) (by decide) (fun x2007 hx2007 => ?_)
      refine ex_cv oq_X12_signs_63 (by decide) Th (k := 111) (d := 12) (as := [cv_i x2007]) (stk := []) rfl rfl rfl rfl rfl rfl ⟨rfl, rfl⟩ (R := fun o => ∃ x : Int32, o = (some (cv_i x), h) ∧ (x.toInt = 1 ∧ (ri_at h 111 8 = 1 ∧ ri_at h 111 9 = x2007.toInt) ∨ x.toInt = 0 ∧ ¬ (ri_at h 111 8 = 1 ∧ ri_at h 111 9 = x2007.toInt))) (sp_isKey Th x2007  (fun x hx => ⟨x, rfl, hx⟩)) (fun ox2008 hox2008 => ?_)
      obtain ⟨x2008, rfl, hx2008⟩ := hox2008
      show cw_X _ _ _ _ _ [cv_i x2008] h
      refine ex_if0 oq_X12_signs_66 (t := 73) rfl rfl (fun (c2009 : x2008.toInt = 0) => ?_) (fun (c2009 : ¬ (x2008.toInt = 0)) => ?_)
      · refine ex_al oq_X12_signs_73 rfl ?_
        obtain ⟨x2010, ax2010, rx2010, lx2010, ux2010⟩ := fi_kind Th
        refine ex_gf oq_X12_signs_74 Th (k := 111) (d := 12) rfl rfl ax2010 ?_
        refine ex_ic oq_X12_signs_77 (m := 5) (by decide) (fun x2011 hx2011 => ?_)
        refine ex_if oq_X12_signs_78 (t := 90) rfl rfl (fun (c2012 : ¬ x2010.toInt = x2011.toInt) => ?_) (fun (c2012 : ¬ (¬ x2010.toInt = x2011.toInt)) => ?_)
        · refine ex_al oq_X12_signs_90 rfl ?_
          refine ex_bi oq_X12_signs_91 (m := 43) (by decide) (fun x2013 hx2013 => ?_)
          refine ex_cv oq_X12_signs_93 (by decide) Th (k := 111) (d := 12) (as := [cv_i x2013]) (stk := []) rfl rfl rfl rfl rfl rfl ⟨rfl, rfl⟩ (R := fun o => ∃ x : Int32, o = (some (cv_i x), h) ∧ (x.toInt = 1 ∧ (ri_at h 111 8 = 4 ∧ ri_at h 111 9 = x2013.toInt) ∨ x.toInt = 0 ∧ ¬ (ri_at h 111 8 = 4 ∧ ri_at h 111 9 = x2013.toInt))) (sp_isSign Th x2013  (fun x hx => ⟨x, rfl, hx⟩)) (fun ox2014 hox2014 => ?_)
          obtain ⟨x2014, rfl, hx2014⟩ := hox2014
          show cw_X _ _ _ _ _ [cv_i x2014] h
          refine ex_if0 oq_X12_signs_96 (t := 104) rfl rfl (fun (c2015 : x2014.toInt = 0) => ?_) (fun (c2015 : ¬ (x2014.toInt = 0)) => ?_)
          · refine ex_al oq_X12_signs_104 rfl ?_
            refine ex_bi oq_X12_signs_105 (m := 45) (by decide) (fun x2016 hx2016 => ?_)
            refine ex_cv oq_X12_signs_107 (by decide) Th (k := 111) (d := 12) (as := [cv_i x2016]) (stk := []) rfl rfl rfl rfl rfl rfl ⟨rfl, rfl⟩ (R := fun o => ∃ x : Int32, o = (some (cv_i x), h) ∧ (x.toInt = 1 ∧ (ri_at h 111 8 = 4 ∧ ri_at h 111 9 = x2016.toInt) ∨ x.toInt = 0 ∧ ¬ (ri_at h 111 8 = 4 ∧ ri_at h 111 9 = x2016.toInt))) (sp_isSign Th x2016  (fun x hx => ⟨x, rfl, hx⟩)) (fun ox2017 hox2017 => ?_)
            obtain ⟨x2017, rfl, hx2017⟩ := hox2017
            show cw_X _ _ _ _ _ [cv_i x2017] h
            refine ex_if0 oq_X12_signs_110 (t := 118) rfl rfl (fun (c2018 : x2017.toInt = 0) => ?_) (fun (c2018 : ¬ (x2017.toInt = 0)) => ?_)
            · refine ex_al oq_X12_signs_118 rfl ?_
              refine ex_bi oq_X12_signs_119 (m := 42) (by decide) (fun x2019 hx2019 => ?_)
              refine ex_cv oq_X12_signs_121 (by decide) Th (k := 111) (d := 12) (as := [cv_i x2019]) (stk := []) rfl rfl rfl rfl rfl rfl ⟨rfl, rfl⟩ (R := fun o => ∃ x : Int32, o = (some (cv_i x), h) ∧ (x.toInt = 1 ∧ (ri_at h 111 8 = 4 ∧ ri_at h 111 9 = x2019.toInt) ∨ x.toInt = 0 ∧ ¬ (ri_at h 111 8 = 4 ∧ ri_at h 111 9 = x2019.toInt))) (sp_isSign Th x2019  (fun x hx => ⟨x, rfl, hx⟩)) (fun ox2020 hox2020 => ?_)
              obtain ⟨x2020, rfl, hx2020⟩ := hox2020
              show cw_X _ _ _ _ _ [cv_i x2020] h
              refine ex_if0 oq_X12_signs_124 (t := 132) rfl rfl (fun (c2021 : x2020.toInt = 0) => ?_) (fun (c2021 : ¬ (x2020.toInt = 0)) => ?_)
              · refine ex_al oq_X12_signs_132 rfl ?_
                refine ex_bi oq_X12_signs_133 (m := 47) (by decide) (fun x2022 hx2022 => ?_)
                refine ex_cv oq_X12_signs_135 (by decide) Th (k := 111) (d := 12) (as := [cv_i x2022]) (stk := []) rfl rfl rfl rfl rfl rfl ⟨rfl, rfl⟩ (R := fun o => ∃ x : Int32, o = (some (cv_i x), h) ∧ (x.toInt = 1 ∧ (ri_at h 111 8 = 4 ∧ ri_at h 111 9 = x2022.toInt) ∨ x.toInt = 0 ∧ ¬ (ri_at h 111 8 = 4 ∧ ri_at h 111 9 = x2022.toInt))) (sp_isSign Th x2022  (fun x hx => ⟨x, rfl, hx⟩)) (fun ox2023 hox2023 => ?_)
                obtain ⟨x2023, rfl, hx2023⟩ := hox2023
                show cw_X _ _ _ _ _ [cv_i x2023] h
                refine ex_if0 oq_X12_signs_138 (t := 146) rfl rfl (fun (c2024 : x2023.toInt = 0) => ?_) (fun (c2024 : ¬ (x2023.toInt = 0)) => ?_)
                · refine ex_ic oq_X12_signs_146 (m := 0) (by decide) (fun x2025 hx2025 => ?_)
                  refine ex_isA oq_X12_signs_147 (fun L2026 gL2026_1 kL2026 => ?_)
                  have gL2026_0 : cv_get L2026 0 = some (cv_r 111) := kL2026 0 _ (by decide) (fun _ => rfl) rfl
                  refine ex_il oq_X12_signs_148 gL2026_1 ?_
                  refine ex_if0 oq_X12_signs_149 (t := 158) rfl rfl (fun (c2027 : ¬ x2025.toInt = 0) => ?_) (fun (c2027 : ¬ (¬ x2025.toInt = 0)) => ?_)
                  · exact sg_158 hX hQ h Th Ph Fh hI (by omega) (by omega) x2025 (by omega) L2026 gL2026_0 gL2026_1
                  · refine ex_al oq_X12_signs_152 gL2026_0 ?_
                    refine ex_ic oq_X12_signs_153 (m := 1) (by decide) (fun x2028 hx2028 => ?_)
                    refine ex_cv oq_X12_signs_154 (by decide) Th (k := 111) (d := 12) (as := [cv_i x2028]) (stk := []) rfl rfl rfl rfl rfl rfl ⟨rfl, rfl⟩ (R := fun o => ∃ (x : Int32) (hb : cv_H), o = (some (cv_i x), hb) ∧ cw_T G hb ∧ cw_PQ G c kd s hb ∧ cw_Fr cw_Ds cw_sh kk_X12_wrong.2.2.2.2.2.1 h hb ∧ x.toInt = 0) (sp_wrong Th Ph x2028 (fun x h a1 a2 a3 a4 => ⟨x, h, rfl, a1, a2, a3, a4⟩)) (fun o ho => ?_)
                    obtain ⟨x2030, h2029, rfl, Th2029, Ph2029, Ch2029, hx2030⟩ := ho
                    show cw_X _ _ _ _ _ [cv_i x2030] h2029
                    have Fh2029 : cw_Fr cw_Ds cw_sh mk_lf h0 h2029 := cw_Fr_tr Fh (cw_Fr_mono (by decide +kernel) Ch2029)
                    have eh2029_37 : ri_at h2029 111 37 = ri_at h 111 37 := ri_frf Ch2029 (d := 12) rfl rfl (by decide +kernel)
                    have eh2029_38 : ri_at h2029 111 38 = ri_at h 111 38 := ri_frf Ch2029 (d := 12) rfl rfl (by decide +kernel)
                    have eh2029_19 : ri_at h2029 111 19 = ri_at h 111 19 := ri_frf Ch2029 (d := 12) rfl rfl (by decide +kernel)
                    have eh2029_40 : ri_at h2029 111 40 = ri_at h 111 40 := ri_frf Ch2029 (d := 12) rfl rfl (by decide +kernel)
                    have eh2029_39 : ri_at h2029 111 39 = ri_at h 111 39 := ri_frf Ch2029 (d := 12) rfl rfl (by decide +kernel)
                    have eh2029_41 : ri_at h2029 111 41 = ri_at h 111 41 := ri_frf Ch2029 (d := 12) rfl rfl (by decide +kernel)
                    have eh2029_8 : ri_at h2029 111 8 = ri_at h 111 8 := ri_frf Ch2029 (d := 12) rfl rfl (by decide +kernel)
                    have eh2029_9 : ri_at h2029 111 9 = ri_at h 111 9 := ri_frf Ch2029 (d := 12) rfl rfl (by decide +kernel)
                    exact ex_retb oq_X12_signs_157 rfl (by omega) (by omega) (hQ x2030 h2029 Th2029 Ph2029 Fh2029 (.inl (by omega)))
                · refine ex_bi oq_X12_signs_141 (m := 14) (by decide) (fun x2031 hx2031 => ?_)
                  refine ex_go oq_X12_signs_143 (t := 147) rfl rfl ?_
                  refine ex_isA oq_X12_signs_147 (fun L2032 gL2032_1 kL2032 => ?_)
                  have gL2032_0 : cv_get L2032 0 = some (cv_r 111) := kL2032 0 _ (by decide) (fun _ => rfl) rfl
                  refine ex_il oq_X12_signs_148 gL2032_1 ?_
                  refine ex_if0 oq_X12_signs_149 (t := 158) rfl rfl (fun (c2033 : ¬ x2031.toInt = 0) => ?_) (fun (c2033 : ¬ (¬ x2031.toInt = 0)) => ?_)
                  · exact sg_158 hX hQ h Th Ph Fh hI (by omega) (by omega) x2031 (by omega) L2032 gL2032_0 gL2032_1
                  · refine ex_al oq_X12_signs_152 gL2032_0 ?_
                    refine ex_ic oq_X12_signs_153 (m := 1) (by decide) (fun x2034 hx2034 => ?_)
                    refine ex_cv oq_X12_signs_154 (by decide) Th (k := 111) (d := 12) (as := [cv_i x2034]) (stk := []) rfl rfl rfl rfl rfl rfl ⟨rfl, rfl⟩ (R := fun o => ∃ (x : Int32) (hb : cv_H), o = (some (cv_i x), hb) ∧ cw_T G hb ∧ cw_PQ G c kd s hb ∧ cw_Fr cw_Ds cw_sh kk_X12_wrong.2.2.2.2.2.1 h hb ∧ x.toInt = 0) (sp_wrong Th Ph x2034 (fun x h a1 a2 a3 a4 => ⟨x, h, rfl, a1, a2, a3, a4⟩)) (fun o ho => ?_)
                    obtain ⟨x2036, h2035, rfl, Th2035, Ph2035, Ch2035, hx2036⟩ := ho
                    show cw_X _ _ _ _ _ [cv_i x2036] h2035
                    have Fh2035 : cw_Fr cw_Ds cw_sh mk_lf h0 h2035 := cw_Fr_tr Fh (cw_Fr_mono (by decide +kernel) Ch2035)
                    have eh2035_37 : ri_at h2035 111 37 = ri_at h 111 37 := ri_frf Ch2035 (d := 12) rfl rfl (by decide +kernel)
                    have eh2035_38 : ri_at h2035 111 38 = ri_at h 111 38 := ri_frf Ch2035 (d := 12) rfl rfl (by decide +kernel)
                    have eh2035_19 : ri_at h2035 111 19 = ri_at h 111 19 := ri_frf Ch2035 (d := 12) rfl rfl (by decide +kernel)
                    have eh2035_40 : ri_at h2035 111 40 = ri_at h 111 40 := ri_frf Ch2035 (d := 12) rfl rfl (by decide +kernel)
                    have eh2035_39 : ri_at h2035 111 39 = ri_at h 111 39 := ri_frf Ch2035 (d := 12) rfl rfl (by decide +kernel)
                    have eh2035_41 : ri_at h2035 111 41 = ri_at h 111 41 := ri_frf Ch2035 (d := 12) rfl rfl (by decide +kernel)
                    have eh2035_8 : ri_at h2035 111 8 = ri_at h 111 8 := ri_frf Ch2035 (d := 12) rfl rfl (by decide +kernel)
                    have eh2035_9 : ri_at h2035 111 9 = ri_at h 111 9 := ri_frf Ch2035 (d := 12) rfl rfl (by decide +kernel)
                    exact ex_retb oq_X12_signs_157 rfl (by omega) (by omega) (hQ x2036 h2035 Th2035 Ph2035 Fh2035 (.inl (by omega)))
              · refine ex_bi oq_X12_signs_127 (m := 13) (by decide) (fun x2037 hx2037 => ?_)
                refine ex_go oq_X12_signs_129 (t := 147) rfl rfl ?_
                refine ex_isA oq_X12_signs_147 (fun L2038 gL2038_1 kL2038 => ?_)
                have gL2038_0 : cv_get L2038 0 = some (cv_r 111) := kL2038 0 _ (by decide) (fun _ => rfl) rfl
                refine ex_il oq_X12_signs_148 gL2038_1 ?_
                refine ex_if0 oq_X12_signs_149 (t := 158) rfl rfl (fun (c2039 : ¬ x2037.toInt = 0) => ?_) (fun (c2039 : ¬ (¬ x2037.toInt = 0)) => ?_)
                · exact sg_158 hX hQ h Th Ph Fh hI (by omega) (by omega) x2037 (by omega) L2038 gL2038_0 gL2038_1
                · refine ex_al oq_X12_signs_152 gL2038_0 ?_
                  refine ex_ic oq_X12_signs_153 (m := 1) (by decide) (fun x2040 hx2040 => ?_)
                  refine ex_cv oq_X12_signs_154 (by decide) Th (k := 111) (d := 12) (as := [cv_i x2040]) (stk := []) rfl rfl rfl rfl rfl rfl ⟨rfl, rfl⟩ (R := fun o => ∃ (x : Int32) (hb : cv_H), o = (some (cv_i x), hb) ∧ cw_T G hb ∧ cw_PQ G c kd s hb ∧ cw_Fr cw_Ds cw_sh kk_X12_wrong.2.2.2.2.2.1 h hb ∧ x.toInt = 0) (sp_wrong Th Ph x2040 (fun x h a1 a2 a3 a4 => ⟨x, h, rfl, a1, a2, a3, a4⟩)) (fun o ho => ?_)
                  obtain ⟨x2042, h2041, rfl, Th2041, Ph2041, Ch2041, hx2042⟩ := ho
                  show cw_X _ _ _ _ _ [cv_i x2042] h2041
                  have Fh2041 : cw_Fr cw_Ds cw_sh mk_lf h0 h2041 := cw_Fr_tr Fh (cw_Fr_mono (by decide +kernel) Ch2041)
                  have eh2041_37 : ri_at h2041 111 37 = ri_at h 111 37 := ri_frf Ch2041 (d := 12) rfl rfl (by decide +kernel)
                  have eh2041_38 : ri_at h2041 111 38 = ri_at h 111 38 := ri_frf Ch2041 (d := 12) rfl rfl (by decide +kernel)
                  have eh2041_19 : ri_at h2041 111 19 = ri_at h 111 19 := ri_frf Ch2041 (d := 12) rfl rfl (by decide +kernel)
                  have eh2041_40 : ri_at h2041 111 40 = ri_at h 111 40 := ri_frf Ch2041 (d := 12) rfl rfl (by decide +kernel)
                  have eh2041_39 : ri_at h2041 111 39 = ri_at h 111 39 := ri_frf Ch2041 (d := 12) rfl rfl (by decide +kernel)
                  have eh2041_41 : ri_at h2041 111 41 = ri_at h 111 41 := ri_frf Ch2041 (d := 12) rfl rfl (by decide +kernel)
                  have eh2041_8 : ri_at h2041 111 8 = ri_at h 111 8 := ri_frf Ch2041 (d := 12) rfl rfl (by decide +kernel)
                  have eh2041_9 : ri_at h2041 111 9 = ri_at h 111 9 := ri_frf Ch2041 (d := 12) rfl rfl (by decide +kernel)
                  exact ex_retb oq_X12_signs_157 rfl (by omega) (by omega) (hQ x2042 h2041 Th2041 Ph2041 Fh2041 (.inl (by omega)))
            · refine ex_bi oq_X12_signs_113 (m := 12) (by decide) (fun x2043 hx2043 => ?_)
              refine ex_go oq_X12_signs_115 (t := 147) rfl rfl ?_
              refine ex_isA oq_X12_signs_147 (fun L2044 gL2044_1 kL2044 => ?_)
              have gL2044_0 : cv_get L2044 0 = some (cv_r 111) := kL2044 0 _ (by decide) (fun _ => rfl) rfl
              refine ex_il oq_X12_signs_148 gL2044_1 ?_
              refine ex_if0 oq_X12_signs_149 (t := 158) rfl rfl (fun (c2045 : ¬ x2043.toInt = 0) => ?_) (fun (c2045 : ¬ (¬ x2043.toInt = 0)) => ?_)
              · exact sg_158 hX hQ h Th Ph Fh hI (by omega) (by omega) x2043 (by omega) L2044 gL2044_0 gL2044_1
              · refine ex_al oq_X12_signs_152 gL2044_0 ?_
                refine ex_ic oq_X12_signs_153 (m := 1) (by decide) (fun x2046 hx2046 => ?_)
                refine ex_cv oq_X12_signs_154 (by decide) Th (k := 111) (d := 12) (as := [cv_i x2046]) (stk := []) rfl rfl rfl rfl rfl rfl ⟨rfl, rfl⟩ (R := fun o => ∃ (x : Int32) (hb : cv_H), o = (some (cv_i x), hb) ∧ cw_T G hb ∧ cw_PQ G c kd s hb ∧ cw_Fr cw_Ds cw_sh kk_X12_wrong.2.2.2.2.2.1 h hb ∧ x.toInt = 0) (sp_wrong Th Ph x2046 (fun x h a1 a2 a3 a4 => ⟨x, h, rfl, a1, a2, a3, a4⟩)) (fun o ho => ?_)
                obtain ⟨x2048, h2047, rfl, Th2047, Ph2047, Ch2047, hx2048⟩ := ho
                show cw_X _ _ _ _ _ [cv_i x2048] h2047
                have Fh2047 : cw_Fr cw_Ds cw_sh mk_lf h0 h2047 := cw_Fr_tr Fh (cw_Fr_mono (by decide +kernel) Ch2047)
                have eh2047_37 : ri_at h2047 111 37 = ri_at h 111 37 := ri_frf Ch2047 (d := 12) rfl rfl (by decide +kernel)
                have eh2047_38 : ri_at h2047 111 38 = ri_at h 111 38 := ri_frf Ch2047 (d := 12) rfl rfl (by decide +kernel)
                have eh2047_19 : ri_at h2047 111 19 = ri_at h 111 19 := ri_frf Ch2047 (d := 12) rfl rfl (by decide +kernel)
                have eh2047_40 : ri_at h2047 111 40 = ri_at h 111 40 := ri_frf Ch2047 (d := 12) rfl rfl (by decide +kernel)
                have eh2047_39 : ri_at h2047 111 39 = ri_at h 111 39 := ri_frf Ch2047 (d := 12) rfl rfl (by decide +kernel)
                have eh2047_41 : ri_at h2047 111 41 = ri_at h 111 41 := ri_frf Ch2047 (d := 12) rfl rfl (by decide +kernel)
                have eh2047_8 : ri_at h2047 111 8 = ri_at h 111 8 := ri_frf Ch2047 (d := 12) rfl rfl (by decide +kernel)
                have eh2047_9 : ri_at h2047 111 9 = ri_at h 111 9 := ri_frf Ch2047 (d := 12) rfl rfl (by decide +kernel)
                exact ex_retb oq_X12_signs_157 rfl (by omega) (by omega) (hQ x2048 h2047 Th2047 Ph2047 Fh2047 (.inl (by omega)))
          · refine ex_bi oq_X12_signs_99 (m := 11) (by decide) (fun x2049 hx2049 => ?_)
            refine ex_go oq_X12_signs_101 (t := 147) rfl rfl ?_
            refine ex_isA oq_X12_signs_147 (fun L2050 gL2050_1 kL2050 => ?_)
            have gL2050_0 : cv_get L2050 0 = some (cv_r 111) := kL2050 0 _ (by decide) (fun _ => rfl) rfl
            refine ex_il oq_X12_signs_148 gL2050_1 ?_
            refine ex_if0 oq_X12_signs_149 (t := 158) rfl rfl (fun (c2051 : ¬ x2049.toInt = 0) => ?_) (fun (c2051 : ¬ (¬ x2049.toInt = 0)) => ?_)
            · exact sg_158 hX hQ h Th Ph Fh hI (by omega) (by omega) x2049 (by omega) L2050 gL2050_0 gL2050_1
            · refine ex_al oq_X12_signs_152 gL2050_0 ?_
              refine ex_ic oq_X12_signs_153 (m := 1) (by decide) (fun x2052 hx2052 => ?_)
              refine ex_cv oq_X12_signs_154 (by decide) Th (k := 111) (d := 12) (as := [cv_i x2052]) (stk := []) rfl rfl rfl rfl rfl rfl ⟨rfl, rfl⟩ (R := fun o => ∃ (x : Int32) (hb : cv_H), o = (some (cv_i x), hb) ∧ cw_T G hb ∧ cw_PQ G c kd s hb ∧ cw_Fr cw_Ds cw_sh kk_X12_wrong.2.2.2.2.2.1 h hb ∧ x.toInt = 0) (sp_wrong Th Ph x2052 (fun x h a1 a2 a3 a4 => ⟨x, h, rfl, a1, a2, a3, a4⟩)) (fun o ho => ?_)
              obtain ⟨x2054, h2053, rfl, Th2053, Ph2053, Ch2053, hx2054⟩ := ho
              show cw_X _ _ _ _ _ [cv_i x2054] h2053
              have Fh2053 : cw_Fr cw_Ds cw_sh mk_lf h0 h2053 := cw_Fr_tr Fh (cw_Fr_mono (by decide +kernel) Ch2053)
              have eh2053_37 : ri_at h2053 111 37 = ri_at h 111 37 := ri_frf Ch2053 (d := 12) rfl rfl (by decide +kernel)
              have eh2053_38 : ri_at h2053 111 38 = ri_at h 111 38 := ri_frf Ch2053 (d := 12) rfl rfl (by decide +kernel)
              have eh2053_19 : ri_at h2053 111 19 = ri_at h 111 19 := ri_frf Ch2053 (d := 12) rfl rfl (by decide +kernel)
              have eh2053_40 : ri_at h2053 111 40 = ri_at h 111 40 := ri_frf Ch2053 (d := 12) rfl rfl (by decide +kernel)
              have eh2053_39 : ri_at h2053 111 39 = ri_at h 111 39 := ri_frf Ch2053 (d := 12) rfl rfl (by decide +kernel)
              have eh2053_41 : ri_at h2053 111 41 = ri_at h 111 41 := ri_frf Ch2053 (d := 12) rfl rfl (by decide +kernel)
              have eh2053_8 : ri_at h2053 111 8 = ri_at h 111 8 := ri_frf Ch2053 (d := 12) rfl rfl (by decide +kernel)
              have eh2053_9 : ri_at h2053 111 9 = ri_at h 111 9 := ri_frf Ch2053 (d := 12) rfl rfl (by decide +kernel)
              exact ex_retb oq_X12_signs_157 rfl (by omega) (by omega) (hQ x2054 h2053 Th2053 Ph2053 Fh2053 (.inl (by omega)))
        · refine ex_ic oq_X12_signs_81 (m := 5) (by decide) (fun x2055 hx2055 => ?_)
          refine ex_al oq_X12_signs_82 rfl ?_
          obtain ⟨x2056, ax2056, rx2056, lx2056, ux2056⟩ := fi_which Th
          refine ex_gf oq_X12_signs_83 Th (k := 111) (d := 12) rfl rfl ax2056 ?_
          refine ex_add oq_X12_signs_86 (by omega) (fun x2057 hx2057 => ?_)
          refine ex_go oq_X12_signs_87 (t := 147) rfl rfl ?_
          refine ex_isA oq_X12_signs_147 (fun L2058 gL2058_1 kL2058 => ?_)
          have gL2058_0 : cv_get L2058 0 = some (cv_r 111) := kL2058 0 _ (by decide) (fun _ => rfl) rfl
          refine ex_il oq_X12_signs_148 gL2058_1 ?_
          refine ex_if0 oq_X12_signs_149 (t := 158) rfl rfl (fun (c2059 : ¬ x2057.toInt = 0) => ?_) (fun (c2059 : ¬ (¬ x2057.toInt = 0)) => ?_)
          · exact sg_158 hX hQ h Th Ph Fh hI (by omega) (by omega) x2057 (by omega) L2058 gL2058_0 gL2058_1
          · refine ex_al oq_X12_signs_152 gL2058_0 ?_
            refine ex_ic oq_X12_signs_153 (m := 1) (by decide) (fun x2060 hx2060 => ?_)
            refine ex_cv oq_X12_signs_154 (by decide) Th (k := 111) (d := 12) (as := [cv_i x2060]) (stk := []) rfl rfl rfl rfl rfl rfl ⟨rfl, rfl⟩ (R := fun o => ∃ (x : Int32) (hb : cv_H), o = (some (cv_i x), hb) ∧ cw_T G hb ∧ cw_PQ G c kd s hb ∧ cw_Fr cw_Ds cw_sh kk_X12_wrong.2.2.2.2.2.1 h hb ∧ x.toInt = 0) (sp_wrong Th Ph x2060 (fun x h a1 a2 a3 a4 => ⟨x, h, rfl, a1, a2, a3, a4⟩)) (fun o ho => ?_)
            obtain ⟨x2062, h2061, rfl, Th2061, Ph2061, Ch2061, hx2062⟩ := ho
            show cw_X _ _ _ _ _ [cv_i x2062] h2061
            have Fh2061 : cw_Fr cw_Ds cw_sh mk_lf h0 h2061 := cw_Fr_tr Fh (cw_Fr_mono (by decide +kernel) Ch2061)
            have eh2061_37 : ri_at h2061 111 37 = ri_at h 111 37 := ri_frf Ch2061 (d := 12) rfl rfl (by decide +kernel)
            have eh2061_38 : ri_at h2061 111 38 = ri_at h 111 38 := ri_frf Ch2061 (d := 12) rfl rfl (by decide +kernel)
            have eh2061_19 : ri_at h2061 111 19 = ri_at h 111 19 := ri_frf Ch2061 (d := 12) rfl rfl (by decide +kernel)
            have eh2061_40 : ri_at h2061 111 40 = ri_at h 111 40 := ri_frf Ch2061 (d := 12) rfl rfl (by decide +kernel)
            have eh2061_39 : ri_at h2061 111 39 = ri_at h 111 39 := ri_frf Ch2061 (d := 12) rfl rfl (by decide +kernel)
            have eh2061_41 : ri_at h2061 111 41 = ri_at h 111 41 := ri_frf Ch2061 (d := 12) rfl rfl (by decide +kernel)
            have eh2061_8 : ri_at h2061 111 8 = ri_at h 111 8 := ri_frf Ch2061 (d := 12) rfl rfl (by decide +kernel)
            have eh2061_9 : ri_at h2061 111 9 = ri_at h 111 9 := ri_frf Ch2061 (d := 12) rfl rfl (by decide +kernel)
            exact ex_retb oq_X12_signs_157 rfl (by omega) (by omega) (hQ x2062 h2061 Th2061 Ph2061 Fh2061 (.inl (by omega)))
      · refine ex_ic oq_X12_signs_69 (m := 4) (by decide) (fun x2063 hx2063 => ?_)
        refine ex_go oq_X12_signs_70 (t := 147) rfl rfl ?_
        refine ex_isA oq_X12_signs_147 (fun L2064 gL2064_1 kL2064 => ?_)
        have gL2064_0 : cv_get L2064 0 = some (cv_r 111) := kL2064 0 _ (by decide) (fun _ => rfl) rfl
        refine ex_il oq_X12_signs_148 gL2064_1 ?_
        refine ex_if0 oq_X12_signs_149 (t := 158) rfl rfl (fun (c2065 : ¬ x2063.toInt = 0) => ?_) (fun (c2065 : ¬ (¬ x2063.toInt = 0)) => ?_)
        · exact sg_158 hX hQ h Th Ph Fh hI (by omega) (by omega) x2063 (by omega) L2064 gL2064_0 gL2064_1
        · refine ex_al oq_X12_signs_152 gL2064_0 ?_
          refine ex_ic oq_X12_signs_153 (m := 1) (by decide) (fun x2066 hx2066 => ?_)
          refine ex_cv oq_X12_signs_154 (by decide) Th (k := 111) (d := 12) (as := [cv_i x2066]) (stk := []) rfl rfl rfl rfl rfl rfl ⟨rfl, rfl⟩ (R := fun o => ∃ (x : Int32) (hb : cv_H), o = (some (cv_i x), hb) ∧ cw_T G hb ∧ cw_PQ G c kd s hb ∧ cw_Fr cw_Ds cw_sh kk_X12_wrong.2.2.2.2.2.1 h hb ∧ x.toInt = 0) (sp_wrong Th Ph x2066 (fun x h a1 a2 a3 a4 => ⟨x, h, rfl, a1, a2, a3, a4⟩)) (fun o ho => ?_)
          obtain ⟨x2068, h2067, rfl, Th2067, Ph2067, Ch2067, hx2068⟩ := ho
          show cw_X _ _ _ _ _ [cv_i x2068] h2067
          have Fh2067 : cw_Fr cw_Ds cw_sh mk_lf h0 h2067 := cw_Fr_tr Fh (cw_Fr_mono (by decide +kernel) Ch2067)
          have eh2067_37 : ri_at h2067 111 37 = ri_at h 111 37 := ri_frf Ch2067 (d := 12) rfl rfl (by decide +kernel)
          have eh2067_38 : ri_at h2067 111 38 = ri_at h 111 38 := ri_frf Ch2067 (d := 12) rfl rfl (by decide +kernel)
          have eh2067_19 : ri_at h2067 111 19 = ri_at h 111 19 := ri_frf Ch2067 (d := 12) rfl rfl (by decide +kernel)
          have eh2067_40 : ri_at h2067 111 40 = ri_at h 111 40 := ri_frf Ch2067 (d := 12) rfl rfl (by decide +kernel)
          have eh2067_39 : ri_at h2067 111 39 = ri_at h 111 39 := ri_frf Ch2067 (d := 12) rfl rfl (by decide +kernel)
          have eh2067_41 : ri_at h2067 111 41 = ri_at h 111 41 := ri_frf Ch2067 (d := 12) rfl rfl (by decide +kernel)
          have eh2067_8 : ri_at h2067 111 8 = ri_at h 111 8 := ri_frf Ch2067 (d := 12) rfl rfl (by decide +kernel)
          have eh2067_9 : ri_at h2067 111 9 = ri_at h 111 9 := ri_frf Ch2067 (d := 12) rfl rfl (by decide +kernel)
          exact ex_retb oq_X12_signs_157 rfl (by omega) (by omega) (hQ x2068 h2067 Th2067 Ph2067 Fh2067 (.inl (by omega)))
    · refine ex_ic oq_X12_signs_56 (m := 3) (by decide) (fun x2069 hx2069 => ?_)
      refine ex_go oq_X12_signs_57 (t := 147) rfl rfl ?_
      refine ex_isA oq_X12_signs_147 (fun L2070 gL2070_1 kL2070 => ?_)
      have gL2070_0 : cv_get L2070 0 = some (cv_r 111) := kL2070 0 _ (by decide) (fun _ => rfl) rfl
      refine ex_il oq_X12_signs_148 gL2070_1 ?_
      refine ex_if0 oq_X12_signs_149 (t := 158) rfl rfl (fun (c2071 : ¬ x2069.toInt = 0) => ?_) (fun (c2071 : ¬ (¬ x2069.toInt = 0)) => ?_)
      · exact sg_158 hX hQ h Th Ph Fh hI (by omega) (by omega) x2069 (by omega) L2070 gL2070_0 gL2070_1
      · refine ex_al oq_X12_signs_152 gL2070_0 ?_
        refine ex_ic oq_X12_signs_153 (m := 1) (by decide) (fun x2072 hx2072 => ?_)
        refine ex_cv oq_X12_signs_154 (by decide) Th (k := 111) (d := 12) (as := [cv_i x2072]) (stk := []) rfl rfl rfl rfl rfl rfl ⟨rfl, rfl⟩ (R := fun o => ∃ (x : Int32) (hb : cv_H), o = (some (cv_i x), hb) ∧ cw_T G hb ∧ cw_PQ G c kd s hb ∧ cw_Fr cw_Ds cw_sh kk_X12_wrong.2.2.2.2.2.1 h hb ∧ x.toInt = 0) (sp_wrong Th Ph x2072 (fun x h a1 a2 a3 a4 => ⟨x, h, rfl, a1, a2, a3, a4⟩)) (fun o ho => ?_)
        obtain ⟨x2074, h2073, rfl, Th2073, Ph2073, Ch2073, hx2074⟩ := ho
        show cw_X _ _ _ _ _ [cv_i x2074] h2073
        have Fh2073 : cw_Fr cw_Ds cw_sh mk_lf h0 h2073 := cw_Fr_tr Fh (cw_Fr_mono (by decide +kernel) Ch2073)
        have eh2073_37 : ri_at h2073 111 37 = ri_at h 111 37 := ri_frf Ch2073 (d := 12) rfl rfl (by decide +kernel)
        have eh2073_38 : ri_at h2073 111 38 = ri_at h 111 38 := ri_frf Ch2073 (d := 12) rfl rfl (by decide +kernel)
        have eh2073_19 : ri_at h2073 111 19 = ri_at h 111 19 := ri_frf Ch2073 (d := 12) rfl rfl (by decide +kernel)
        have eh2073_40 : ri_at h2073 111 40 = ri_at h 111 40 := ri_frf Ch2073 (d := 12) rfl rfl (by decide +kernel)
        have eh2073_39 : ri_at h2073 111 39 = ri_at h 111 39 := ri_frf Ch2073 (d := 12) rfl rfl (by decide +kernel)
        have eh2073_41 : ri_at h2073 111 41 = ri_at h 111 41 := ri_frf Ch2073 (d := 12) rfl rfl (by decide +kernel)
        have eh2073_8 : ri_at h2073 111 8 = ri_at h 111 8 := ri_frf Ch2073 (d := 12) rfl rfl (by decide +kernel)
        have eh2073_9 : ri_at h2073 111 9 = ri_at h 111 9 := ri_frf Ch2073 (d := 12) rfl rfl (by decide +kernel)
        exact ex_retb oq_X12_signs_157 rfl (by omega) (by omega) (hQ x2074 h2073 Th2073 Ph2073 Fh2073 (.inl (by omega)))
  · refine ex_al oq_X12_signs_9 rfl ?_
    obtain ⟨x2075, ax2075, rx2075, lx2075, ux2075⟩ := fi_brackets Th
    refine ex_gf oq_X12_signs_10 Th (k := 111) (d := 12) rfl rfl ax2075 ?_
    refine ex_if0 oq_X12_signs_13 (t := 47) rfl rfl (fun (c2076 : x2075.toInt ≤ 0) => ?_) (fun (c2076 : ¬ (x2075.toInt ≤ 0)) => ?_)
    · refine ex_al oq_X12_signs_47 rfl ?_
      refine ex_bi oq_X12_signs_48 (m := 21) (by decide) (fun x2077 hx2077 => ?_)
      refine ex_cv oq_X12_signs_50 (by decide) Th (k := 111) (d := 12) (as := [cv_i x2077]) (stk := []) rfl rfl rfl rfl rfl rfl ⟨rfl, rfl⟩ (R := fun o => ∃ x : Int32, o = (some (cv_i x), h) ∧ (x.toInt = 1 ∧ (ri_at h 111 8 = 1 ∧ ri_at h 111 9 = x2077.toInt) ∨ x.toInt = 0 ∧ ¬ (ri_at h 111 8 = 1 ∧ ri_at h 111 9 = x2077.toInt))) (sp_isKey Th x2077  (fun x hx => ⟨x, rfl, hx⟩)) (fun ox2078 hox2078 => ?_)
      obtain ⟨x2078, rfl, hx2078⟩ := hox2078
      show cw_X _ _ _ _ _ [cv_i x2078] h
      refine ex_if0 oq_X12_signs_53 (t := 60) rfl rfl (fun (c2079 : x2078.toInt = 0) => ?_) (fun (c2079 : ¬ (x2078.toInt = 0)) => ?_)
      · refine ex_al oq_X12_signs_60 rfl ?_
        refine ex_bi oq_X12_signs_61 (m := 22) (by decide) (fun x2080 hx2080 => ?_)
        refine ex_cv oq_X12_signs_63 (by decide) Th (k := 111) (d := 12) (as := [cv_i x2080]) (stk := []) rfl rfl rfl rfl rfl rfl ⟨rfl, rfl⟩ (R := fun o => ∃ x : Int32, o = (some (cv_i x), h) ∧ (x.toInt = 1 ∧ (ri_at h 111 8 = 1 ∧ ri_at h 111 9 = x2080.toInt) ∨ x.toInt = 0 ∧ ¬ (ri_at h 111 8 = 1 ∧ ri_at h 111 9 = x2080.toInt))) (sp_isKey Th x2080  (fun x hx => ⟨x, rfl, hx⟩)) (fun ox2081 hox2081 => ?_)
        obtain ⟨x2081, rfl, hx2081⟩ := hox2081
        show cw_X _ _ _ _ _ [cv_i x2081] h
        refine ex_if0 oq_X12_signs_66 (t := 73) rfl rfl (fun (c2082 : x2081.toInt = 0) => ?_) (fun (c2082 : ¬ (x2081.toInt = 0)) => ?_)
        · refine ex_al oq_X12_signs_73 rfl ?_
          obtain ⟨x2083, ax2083, rx2083, lx2083, ux2083⟩ := fi_kind Th
          refine ex_gf oq_X12_signs_74 Th (k := 111) (d := 12) rfl rfl ax2083 ?_
          refine ex_ic oq_X12_signs_77 (m := 5) (by decide) (fun x2084 hx2084 => ?_)
          refine ex_if oq_X12_signs_78 (t := 90) rfl rfl (fun (c2085 : ¬ x2083.toInt = x2084.toInt) => ?_) (fun (c2085 : ¬ (¬ x2083.toInt = x2084.toInt)) => ?_)
          · refine ex_al oq_X12_signs_90 rfl ?_
            refine ex_bi oq_X12_signs_91 (m := 43) (by decide) (fun x2086 hx2086 => ?_)
            refine ex_cv oq_X12_signs_93 (by decide) Th (k := 111) (d := 12) (as := [cv_i x2086]) (stk := []) rfl rfl rfl rfl rfl rfl ⟨rfl, rfl⟩ (R := fun o => ∃ x : Int32, o = (some (cv_i x), h) ∧ (x.toInt = 1 ∧ (ri_at h 111 8 = 4 ∧ ri_at h 111 9 = x2086.toInt) ∨ x.toInt = 0 ∧ ¬ (ri_at h 111 8 = 4 ∧ ri_at h 111 9 = x2086.toInt))) (sp_isSign Th x2086  (fun x hx => ⟨x, rfl, hx⟩)) (fun ox2087 hox2087 => ?_)
            obtain ⟨x2087, rfl, hx2087⟩ := hox2087
            show cw_X _ _ _ _ _ [cv_i x2087] h
            refine ex_if0 oq_X12_signs_96 (t := 104) rfl rfl (fun (c2088 : x2087.toInt = 0) => ?_) (fun (c2088 : ¬ (x2087.toInt = 0)) => ?_)
            · refine ex_al oq_X12_signs_104 rfl ?_
              refine ex_bi oq_X12_signs_105 (m := 45) (by decide) (fun x2089 hx2089 => ?_)
              refine ex_cv oq_X12_signs_107 (by decide) Th (k := 111) (d := 12) (as := [cv_i x2089]) (stk := []) rfl rfl rfl rfl rfl rfl ⟨rfl, rfl⟩ (R := fun o => ∃ x : Int32, o = (some (cv_i x), h) ∧ (x.toInt = 1 ∧ (ri_at h 111 8 = 4 ∧ ri_at h 111 9 = x2089.toInt) ∨ x.toInt = 0 ∧ ¬ (ri_at h 111 8 = 4 ∧ ri_at h 111 9 = x2089.toInt))) (sp_isSign Th x2089  (fun x hx => ⟨x, rfl, hx⟩)) (fun ox2090 hox2090 => ?_)
              obtain ⟨x2090, rfl, hx2090⟩ := hox2090
              show cw_X _ _ _ _ _ [cv_i x2090] h
              refine ex_if0 oq_X12_signs_110 (t := 118) rfl rfl (fun (c2091 : x2090.toInt = 0) => ?_) (fun (c2091 : ¬ (x2090.toInt = 0)) => ?_)
              · refine ex_al oq_X12_signs_118 rfl ?_
                refine ex_bi oq_X12_signs_119 (m := 42) (by decide) (fun x2092 hx2092 => ?_)
                refine ex_cv oq_X12_signs_121 (by decide) Th (k := 111) (d := 12) (as := [cv_i x2092]) (stk := []) rfl rfl rfl rfl rfl rfl ⟨rfl, rfl⟩ (R := fun o => ∃ x : Int32, o = (some (cv_i x), h) ∧ (x.toInt = 1 ∧ (ri_at h 111 8 = 4 ∧ ri_at h 111 9 = x2092.toInt) ∨ x.toInt = 0 ∧ ¬ (ri_at h 111 8 = 4 ∧ ri_at h 111 9 = x2092.toInt))) (sp_isSign Th x2092  (fun x hx => ⟨x, rfl, hx⟩)) (fun ox2093 hox2093 => ?_)
                obtain ⟨x2093, rfl, hx2093⟩ := hox2093
                show cw_X _ _ _ _ _ [cv_i x2093] h
                refine ex_if0 oq_X12_signs_124 (t := 132) rfl rfl (fun (c2094 : x2093.toInt = 0) => ?_) (fun (c2094 : ¬ (x2093.toInt = 0)) => ?_)
                · refine ex_al oq_X12_signs_132 rfl ?_
                  refine ex_bi oq_X12_signs_133 (m := 47) (by decide) (fun x2095 hx2095 => ?_)
                  refine ex_cv oq_X12_signs_135 (by decide) Th (k := 111) (d := 12) (as := [cv_i x2095]) (stk := []) rfl rfl rfl rfl rfl rfl ⟨rfl, rfl⟩ (R := fun o => ∃ x : Int32, o = (some (cv_i x), h) ∧ (x.toInt = 1 ∧ (ri_at h 111 8 = 4 ∧ ri_at h 111 9 = x2095.toInt) ∨ x.toInt = 0 ∧ ¬ (ri_at h 111 8 = 4 ∧ ri_at h 111 9 = x2095.toInt))) (sp_isSign Th x2095  (fun x hx => ⟨x, rfl, hx⟩)) (fun ox2096 hox2096 => ?_)
                  obtain ⟨x2096, rfl, hx2096⟩ := hox2096
                  show cw_X _ _ _ _ _ [cv_i x2096] h
                  refine ex_if0 oq_X12_signs_138 (t := 146) rfl rfl (fun (c2097 : x2096.toInt = 0) => ?_) (fun (c2097 : ¬ (x2096.toInt = 0)) => ?_)
                  · refine ex_ic oq_X12_signs_146 (m := 0) (by decide) (fun x2098 hx2098 => ?_)
                    refine ex_isA oq_X12_signs_147 (fun L2099 gL2099_1 kL2099 => ?_)
                    have gL2099_0 : cv_get L2099 0 = some (cv_r 111) := kL2099 0 _ (by decide) (fun _ => rfl) rfl
                    refine ex_il oq_X12_signs_148 gL2099_1 ?_
                    refine ex_if0 oq_X12_signs_149 (t := 158) rfl rfl (fun (c2100 : ¬ x2098.toInt = 0) => ?_) (fun (c2100 : ¬ (¬ x2098.toInt = 0)) => ?_)
                    · exact sg_158 hX hQ h Th Ph Fh hI (by omega) (by omega) x2098 (by omega) L2099 gL2099_0 gL2099_1
                    · refine ex_al oq_X12_signs_152 gL2099_0 ?_
                      refine ex_ic oq_X12_signs_153 (m := 1) (by decide) (fun x2101 hx2101 => ?_)
                      refine ex_cv oq_X12_signs_154 (by decide) Th (k := 111) (d := 12) (as := [cv_i x2101]) (stk := []) rfl rfl rfl rfl rfl rfl ⟨rfl, rfl⟩ (R := fun o => ∃ (x : Int32) (hb : cv_H), o = (some (cv_i x), hb) ∧ cw_T G hb ∧ cw_PQ G c kd s hb ∧ cw_Fr cw_Ds cw_sh kk_X12_wrong.2.2.2.2.2.1 h hb ∧ x.toInt = 0) (sp_wrong Th Ph x2101 (fun x h a1 a2 a3 a4 => ⟨x, h, rfl, a1, a2, a3, a4⟩)) (fun o ho => ?_)
                      obtain ⟨x2103, h2102, rfl, Th2102, Ph2102, Ch2102, hx2103⟩ := ho
                      show cw_X _ _ _ _ _ [cv_i x2103] h2102
                      have Fh2102 : cw_Fr cw_Ds cw_sh mk_lf h0 h2102 := cw_Fr_tr Fh (cw_Fr_mono (by decide +kernel) Ch2102)
                      have eh2102_37 : ri_at h2102 111 37 = ri_at h 111 37 := ri_frf Ch2102 (d := 12) rfl rfl (by decide +kernel)
                      have eh2102_38 : ri_at h2102 111 38 = ri_at h 111 38 := ri_frf Ch2102 (d := 12) rfl rfl (by decide +kernel)
                      have eh2102_19 : ri_at h2102 111 19 = ri_at h 111 19 := ri_frf Ch2102 (d := 12) rfl rfl (by decide +kernel)
                      have eh2102_40 : ri_at h2102 111 40 = ri_at h 111 40 := ri_frf Ch2102 (d := 12) rfl rfl (by decide +kernel)
                      have eh2102_39 : ri_at h2102 111 39 = ri_at h 111 39 := ri_frf Ch2102 (d := 12) rfl rfl (by decide +kernel)
                      have eh2102_41 : ri_at h2102 111 41 = ri_at h 111 41 := ri_frf Ch2102 (d := 12) rfl rfl (by decide +kernel)
                      have eh2102_8 : ri_at h2102 111 8 = ri_at h 111 8 := ri_frf Ch2102 (d := 12) rfl rfl (by decide +kernel)
                      have eh2102_9 : ri_at h2102 111 9 = ri_at h 111 9 := ri_frf Ch2102 (d := 12) rfl rfl (by decide +kernel)
                      exact ex_retb oq_X12_signs_157 rfl (by omega) (by omega) (hQ x2103 h2102 Th2102 Ph2102 Fh2102 (.inl (by omega)))
                  · refine ex_bi oq_X12_signs_141 (m := 14) (by decide) (fun x2104 hx2104 => ?_)
                    refine ex_go oq_X12_signs_143 (t := 147) rfl rfl ?_
                    refine ex_isA oq_X12_signs_147 (fun L2105 gL2105_1 kL2105 => ?_)
                    have gL2105_0 : cv_get L2105 0 = some (cv_r 111) := kL2105 0 _ (by decide) (fun _ => rfl) rfl
                    refine ex_il oq_X12_signs_148 gL2105_1 ?_
                    refine ex_if0 oq_X12_signs_149 (t := 158) rfl rfl (fun (c2106 : ¬ x2104.toInt = 0) => ?_) (fun (c2106 : ¬ (¬ x2104.toInt = 0)) => ?_)
                    · exact sg_158 hX hQ h Th Ph Fh hI (by omega) (by omega) x2104 (by omega) L2105 gL2105_0 gL2105_1
                    · refine ex_al oq_X12_signs_152 gL2105_0 ?_
                      refine ex_ic oq_X12_signs_153 (m := 1) (by decide) (fun x2107 hx2107 => ?_)
                      refine ex_cv oq_X12_signs_154 (by decide) Th (k := 111) (d := 12) (as := [cv_i x2107]) (stk := []) rfl rfl rfl rfl rfl rfl ⟨rfl, rfl⟩ (R := fun o => ∃ (x : Int32) (hb : cv_H), o = (some (cv_i x), hb) ∧ cw_T G hb ∧ cw_PQ G c kd s hb ∧ cw_Fr cw_Ds cw_sh kk_X12_wrong.2.2.2.2.2.1 h hb ∧ x.toInt = 0) (sp_wrong Th Ph x2107 (fun x h a1 a2 a3 a4 => ⟨x, h, rfl, a1, a2, a3, a4⟩)) (fun o ho => ?_)
                      obtain ⟨x2109, h2108, rfl, Th2108, Ph2108, Ch2108, hx2109⟩ := ho
                      show cw_X _ _ _ _ _ [cv_i x2109] h2108
                      have Fh2108 : cw_Fr cw_Ds cw_sh mk_lf h0 h2108 := cw_Fr_tr Fh (cw_Fr_mono (by decide +kernel) Ch2108)
                      have eh2108_37 : ri_at h2108 111 37 = ri_at h 111 37 := ri_frf Ch2108 (d := 12) rfl rfl (by decide +kernel)
                      have eh2108_38 : ri_at h2108 111 38 = ri_at h 111 38 := ri_frf Ch2108 (d := 12) rfl rfl (by decide +kernel)
                      have eh2108_19 : ri_at h2108 111 19 = ri_at h 111 19 := ri_frf Ch2108 (d := 12) rfl rfl (by decide +kernel)
                      have eh2108_40 : ri_at h2108 111 40 = ri_at h 111 40 := ri_frf Ch2108 (d := 12) rfl rfl (by decide +kernel)
                      have eh2108_39 : ri_at h2108 111 39 = ri_at h 111 39 := ri_frf Ch2108 (d := 12) rfl rfl (by decide +kernel)
                      have eh2108_41 : ri_at h2108 111 41 = ri_at h 111 41 := ri_frf Ch2108 (d := 12) rfl rfl (by decide +kernel)
                      have eh2108_8 : ri_at h2108 111 8 = ri_at h 111 8 := ri_frf Ch2108 (d := 12) rfl rfl (by decide +kernel)
                      have eh2108_9 : ri_at h2108 111 9 = ri_at h 111 9 := ri_frf Ch2108 (d := 12) rfl rfl (by decide +kernel)
                      exact ex_retb oq_X12_signs_157 rfl (by omega) (by omega) (hQ x2109 h2108 Th2108 Ph2108 Fh2108 (.inl (by omega)))
                · refine ex_bi oq_X12_signs_127 (m := 13) (by decide) (fun x2110 hx2110 => ?_)
                  refine ex_go oq_X12_signs_129 (t := 147) rfl rfl ?_
                  refine ex_isA oq_X12_signs_147 (fun L2111 gL2111_1 kL2111 => ?_)
                  have gL2111_0 : cv_get L2111 0 = some (cv_r 111) := kL2111 0 _ (by decide) (fun _ => rfl) rfl
                  refine ex_il oq_X12_signs_148 gL2111_1 ?_
                  refine ex_if0 oq_X12_signs_149 (t := 158) rfl rfl (fun (c2112 : ¬ x2110.toInt = 0) => ?_) (fun (c2112 : ¬ (¬ x2110.toInt = 0)) => ?_)
                  · exact sg_158 hX hQ h Th Ph Fh hI (by omega) (by omega) x2110 (by omega) L2111 gL2111_0 gL2111_1
                  · refine ex_al oq_X12_signs_152 gL2111_0 ?_
                    refine ex_ic oq_X12_signs_153 (m := 1) (by decide) (fun x2113 hx2113 => ?_)
                    refine ex_cv oq_X12_signs_154 (by decide) Th (k := 111) (d := 12) (as := [cv_i x2113]) (stk := []) rfl rfl rfl rfl rfl rfl ⟨rfl, rfl⟩ (R := fun o => ∃ (x : Int32) (hb : cv_H), o = (some (cv_i x), hb) ∧ cw_T G hb ∧ cw_PQ G c kd s hb ∧ cw_Fr cw_Ds cw_sh kk_X12_wrong.2.2.2.2.2.1 h hb ∧ x.toInt = 0) (sp_wrong Th Ph x2113 (fun x h a1 a2 a3 a4 => ⟨x, h, rfl, a1, a2, a3, a4⟩)) (fun o ho => ?_)
                    obtain ⟨x2115, h2114, rfl, Th2114, Ph2114, Ch2114, hx2115⟩ := ho
                    show cw_X _ _ _ _ _ [cv_i x2115] h2114
                    have Fh2114 : cw_Fr cw_Ds cw_sh mk_lf h0 h2114 := cw_Fr_tr Fh (cw_Fr_mono (by decide +kernel) Ch2114)
                    have eh2114_37 : ri_at h2114 111 37 = ri_at h 111 37 := ri_frf Ch2114 (d := 12) rfl rfl (by decide +kernel)
                    have eh2114_38 : ri_at h2114 111 38 = ri_at h 111 38 := ri_frf Ch2114 (d := 12) rfl rfl (by decide +kernel)
                    have eh2114_19 : ri_at h2114 111 19 = ri_at h 111 19 := ri_frf Ch2114 (d := 12) rfl rfl (by decide +kernel)
                    have eh2114_40 : ri_at h2114 111 40 = ri_at h 111 40 := ri_frf Ch2114 (d := 12) rfl rfl (by decide +kernel)
                    have eh2114_39 : ri_at h2114 111 39 = ri_at h 111 39 := ri_frf Ch2114 (d := 12) rfl rfl (by decide +kernel)
                    have eh2114_41 : ri_at h2114 111 41 = ri_at h 111 41 := ri_frf Ch2114 (d := 12) rfl rfl (by decide +kernel)
                    have eh2114_8 : ri_at h2114 111 8 = ri_at h 111 8 := ri_frf Ch2114 (d := 12) rfl rfl (by decide +kernel)
                    have eh2114_9 : ri_at h2114 111 9 = ri_at h 111 9 := ri_frf Ch2114 (d := 12) rfl rfl (by decide +kernel)
                    exact ex_retb oq_X12_signs_157 rfl (by omega) (by omega) (hQ x2115 h2114 Th2114 Ph2114 Fh2114 (.inl (by omega)))
              · refine ex_bi oq_X12_signs_113 (m := 12) (by decide) (fun x2116 hx2116 => ?_)
                refine ex_go oq_X12_signs_115 (t := 147) rfl rfl ?_
                refine ex_isA oq_X12_signs_147 (fun L2117 gL2117_1 kL2117 => ?_)
                have gL2117_0 : cv_get L2117 0 = some (cv_r 111) := kL2117 0 _ (by decide) (fun _ => rfl) rfl
                refine ex_il oq_X12_signs_148 gL2117_1 ?_
                refine ex_if0 oq_X12_signs_149 (t := 158) rfl rfl (fun (c2118 : ¬ x2116.toInt = 0) => ?_) (fun (c2118 : ¬ (¬ x2116.toInt = 0)) => ?_)
                · exact sg_158 hX hQ h Th Ph Fh hI (by omega) (by omega) x2116 (by omega) L2117 gL2117_0 gL2117_1
                · refine ex_al oq_X12_signs_152 gL2117_0 ?_
                  refine ex_ic oq_X12_signs_153 (m := 1) (by decide) (fun x2119 hx2119 => ?_)
                  refine ex_cv oq_X12_signs_154 (by decide) Th (k := 111) (d := 12) (as := [cv_i x2119]) (stk := []) rfl rfl rfl rfl rfl rfl ⟨rfl, rfl⟩ (R := fun o => ∃ (x : Int32) (hb : cv_H), o = (some (cv_i x), hb) ∧ cw_T G hb ∧ cw_PQ G c kd s hb ∧ cw_Fr cw_Ds cw_sh kk_X12_wrong.2.2.2.2.2.1 h hb ∧ x.toInt = 0) (sp_wrong Th Ph x2119 (fun x h a1 a2 a3 a4 => ⟨x, h, rfl, a1, a2, a3, a4⟩)) (fun o ho => ?_)
                  obtain ⟨x2121, h2120, rfl, Th2120, Ph2120, Ch2120, hx2121⟩ := ho
                  show cw_X _ _ _ _ _ [cv_i x2121] h2120
                  have Fh2120 : cw_Fr cw_Ds cw_sh mk_lf h0 h2120 := cw_Fr_tr Fh (cw_Fr_mono (by decide +kernel) Ch2120)
                  have eh2120_37 : ri_at h2120 111 37 = ri_at h 111 37 := ri_frf Ch2120 (d := 12) rfl rfl (by decide +kernel)
                  have eh2120_38 : ri_at h2120 111 38 = ri_at h 111 38 := ri_frf Ch2120 (d := 12) rfl rfl (by decide +kernel)
                  have eh2120_19 : ri_at h2120 111 19 = ri_at h 111 19 := ri_frf Ch2120 (d := 12) rfl rfl (by decide +kernel)
                  have eh2120_40 : ri_at h2120 111 40 = ri_at h 111 40 := ri_frf Ch2120 (d := 12) rfl rfl (by decide +kernel)
                  have eh2120_39 : ri_at h2120 111 39 = ri_at h 111 39 := ri_frf Ch2120 (d := 12) rfl rfl (by decide +kernel)
                  have eh2120_41 : ri_at h2120 111 41 = ri_at h 111 41 := ri_frf Ch2120 (d := 12) rfl rfl (by decide +kernel)
                  have eh2120_8 : ri_at h2120 111 8 = ri_at h 111 8 := ri_frf Ch2120 (d := 12) rfl rfl (by decide +kernel)
                  have eh2120_9 : ri_at h2120 111 9 = ri_at h 111 9 := ri_frf Ch2120 (d := 12) rfl rfl (by decide +kernel)
                  exact ex_retb oq_X12_signs_157 rfl (by omega) (by omega) (hQ x2121 h2120 Th2120 Ph2120 Fh2120 (.inl (by omega)))
            · refine ex_bi oq_X12_signs_99 (m := 11) (by decide) (fun x2122 hx2122 => ?_)
              refine ex_go oq_X12_signs_101 (t := 147) rfl rfl ?_
              refine ex_isA oq_X12_signs_147 (fun L2123 gL2123_1 kL2123 => ?_)
              have gL2123_0 : cv_get L2123 0 = some (cv_r 111) := kL2123 0 _ (by decide) (fun _ => rfl) rfl
              refine ex_il oq_X12_signs_148 gL2123_1 ?_
              refine ex_if0 oq_X12_signs_149 (t := 158) rfl rfl (fun (c2124 : ¬ x2122.toInt = 0) => ?_) (fun (c2124 : ¬ (¬ x2122.toInt = 0)) => ?_)
              · exact sg_158 hX hQ h Th Ph Fh hI (by omega) (by omega) x2122 (by omega) L2123 gL2123_0 gL2123_1
              · refine ex_al oq_X12_signs_152 gL2123_0 ?_
                refine ex_ic oq_X12_signs_153 (m := 1) (by decide) (fun x2125 hx2125 => ?_)
                refine ex_cv oq_X12_signs_154 (by decide) Th (k := 111) (d := 12) (as := [cv_i x2125]) (stk := []) rfl rfl rfl rfl rfl rfl ⟨rfl, rfl⟩ (R := fun o => ∃ (x : Int32) (hb : cv_H), o = (some (cv_i x), hb) ∧ cw_T G hb ∧ cw_PQ G c kd s hb ∧ cw_Fr cw_Ds cw_sh kk_X12_wrong.2.2.2.2.2.1 h hb ∧ x.toInt = 0) (sp_wrong Th Ph x2125 (fun x h a1 a2 a3 a4 => ⟨x, h, rfl, a1, a2, a3, a4⟩)) (fun o ho => ?_)
                obtain ⟨x2127, h2126, rfl, Th2126, Ph2126, Ch2126, hx2127⟩ := ho
                show cw_X _ _ _ _ _ [cv_i x2127] h2126
                have Fh2126 : cw_Fr cw_Ds cw_sh mk_lf h0 h2126 := cw_Fr_tr Fh (cw_Fr_mono (by decide +kernel) Ch2126)
                have eh2126_37 : ri_at h2126 111 37 = ri_at h 111 37 := ri_frf Ch2126 (d := 12) rfl rfl (by decide +kernel)
                have eh2126_38 : ri_at h2126 111 38 = ri_at h 111 38 := ri_frf Ch2126 (d := 12) rfl rfl (by decide +kernel)
                have eh2126_19 : ri_at h2126 111 19 = ri_at h 111 19 := ri_frf Ch2126 (d := 12) rfl rfl (by decide +kernel)
                have eh2126_40 : ri_at h2126 111 40 = ri_at h 111 40 := ri_frf Ch2126 (d := 12) rfl rfl (by decide +kernel)
                have eh2126_39 : ri_at h2126 111 39 = ri_at h 111 39 := ri_frf Ch2126 (d := 12) rfl rfl (by decide +kernel)
                have eh2126_41 : ri_at h2126 111 41 = ri_at h 111 41 := ri_frf Ch2126 (d := 12) rfl rfl (by decide +kernel)
                have eh2126_8 : ri_at h2126 111 8 = ri_at h 111 8 := ri_frf Ch2126 (d := 12) rfl rfl (by decide +kernel)
                have eh2126_9 : ri_at h2126 111 9 = ri_at h 111 9 := ri_frf Ch2126 (d := 12) rfl rfl (by decide +kernel)
                exact ex_retb oq_X12_signs_157 rfl (by omega) (by omega) (hQ x2127 h2126 Th2126 Ph2126 Fh2126 (.inl (by omega)))
          · refine ex_ic oq_X12_signs_81 (m := 5) (by decide) (fun x2128 hx2128 => ?_)
            refine ex_al oq_X12_signs_82 rfl ?_
            obtain ⟨x2129, ax2129, rx2129, lx2129, ux2129⟩ := fi_which Th
            refine ex_gf oq_X12_signs_83 Th (k := 111) (d := 12) rfl rfl ax2129 ?_
            refine ex_add oq_X12_signs_86 (by omega) (fun x2130 hx2130 => ?_)
            refine ex_go oq_X12_signs_87 (t := 147) rfl rfl ?_
            refine ex_isA oq_X12_signs_147 (fun L2131 gL2131_1 kL2131 => ?_)
            have gL2131_0 : cv_get L2131 0 = some (cv_r 111) := kL2131 0 _ (by decide) (fun _ => rfl) rfl
            refine ex_il oq_X12_signs_148 gL2131_1 ?_
            refine ex_if0 oq_X12_signs_149 (t := 158) rfl rfl (fun (c2132 : ¬ x2130.toInt = 0) => ?_) (fun (c2132 : ¬ (¬ x2130.toInt = 0)) => ?_)
            · exact sg_158 hX hQ h Th Ph Fh hI (by omega) (by omega) x2130 (by omega) L2131 gL2131_0 gL2131_1
            · refine ex_al oq_X12_signs_152 gL2131_0 ?_
              refine ex_ic oq_X12_signs_153 (m := 1) (by decide) (fun x2133 hx2133 => ?_)
              refine ex_cv oq_X12_signs_154 (by decide) Th (k := 111) (d := 12) (as := [cv_i x2133]) (stk := []) rfl rfl rfl rfl rfl rfl ⟨rfl, rfl⟩ (R := fun o => ∃ (x : Int32) (hb : cv_H), o = (some (cv_i x), hb) ∧ cw_T G hb ∧ cw_PQ G c kd s hb ∧ cw_Fr cw_Ds cw_sh kk_X12_wrong.2.2.2.2.2.1 h hb ∧ x.toInt = 0) (sp_wrong Th Ph x2133 (fun x h a1 a2 a3 a4 => ⟨x, h, rfl, a1, a2, a3, a4⟩)) (fun o ho => ?_)
              obtain ⟨x2135, h2134, rfl, Th2134, Ph2134, Ch2134, hx2135⟩ := ho
              show cw_X _ _ _ _ _ [cv_i x2135] h2134
              have Fh2134 : cw_Fr cw_Ds cw_sh mk_lf h0 h2134 := cw_Fr_tr Fh (cw_Fr_mono (by decide +kernel) Ch2134)
              have eh2134_37 : ri_at h2134 111 37 = ri_at h 111 37 := ri_frf Ch2134 (d := 12) rfl rfl (by decide +kernel)
              have eh2134_38 : ri_at h2134 111 38 = ri_at h 111 38 := ri_frf Ch2134 (d := 12) rfl rfl (by decide +kernel)
              have eh2134_19 : ri_at h2134 111 19 = ri_at h 111 19 := ri_frf Ch2134 (d := 12) rfl rfl (by decide +kernel)
              have eh2134_40 : ri_at h2134 111 40 = ri_at h 111 40 := ri_frf Ch2134 (d := 12) rfl rfl (by decide +kernel)
              have eh2134_39 : ri_at h2134 111 39 = ri_at h 111 39 := ri_frf Ch2134 (d := 12) rfl rfl (by decide +kernel)
              have eh2134_41 : ri_at h2134 111 41 = ri_at h 111 41 := ri_frf Ch2134 (d := 12) rfl rfl (by decide +kernel)
              have eh2134_8 : ri_at h2134 111 8 = ri_at h 111 8 := ri_frf Ch2134 (d := 12) rfl rfl (by decide +kernel)
              have eh2134_9 : ri_at h2134 111 9 = ri_at h 111 9 := ri_frf Ch2134 (d := 12) rfl rfl (by decide +kernel)
              exact ex_retb oq_X12_signs_157 rfl (by omega) (by omega) (hQ x2135 h2134 Th2134 Ph2134 Fh2134 (.inl (by omega)))
        · refine ex_ic oq_X12_signs_69 (m := 4) (by decide) (fun x2136 hx2136 => ?_)
          refine ex_go oq_X12_signs_70 (t := 147) rfl rfl ?_
          refine ex_isA oq_X12_signs_147 (fun L2137 gL2137_1 kL2137 => ?_)
          have gL2137_0 : cv_get L2137 0 = some (cv_r 111) := kL2137 0 _ (by decide) (fun _ => rfl) rfl
          refine ex_il oq_X12_signs_148 gL2137_1 ?_
          refine ex_if0 oq_X12_signs_149 (t := 158) rfl rfl (fun (c2138 : ¬ x2136.toInt = 0) => ?_) (fun (c2138 : ¬ (¬ x2136.toInt = 0)) => ?_)
          · exact sg_158 hX hQ h Th Ph Fh hI (by omega) (by omega) x2136 (by omega) L2137 gL2137_0 gL2137_1
          · refine ex_al oq_X12_signs_152 gL2137_0 ?_
            refine ex_ic oq_X12_signs_153 (m := 1) (by decide) (fun x2139 hx2139 => ?_)
            refine ex_cv oq_X12_signs_154 (by decide) Th (k := 111) (d := 12) (as := [cv_i x2139]) (stk := []) rfl rfl rfl rfl rfl rfl ⟨rfl, rfl⟩ (R := fun o => ∃ (x : Int32) (hb : cv_H), o = (some (cv_i x), hb) ∧ cw_T G hb ∧ cw_PQ G c kd s hb ∧ cw_Fr cw_Ds cw_sh kk_X12_wrong.2.2.2.2.2.1 h hb ∧ x.toInt = 0) (sp_wrong Th Ph x2139 (fun x h a1 a2 a3 a4 => ⟨x, h, rfl, a1, a2, a3, a4⟩)) (fun o ho => ?_)
            obtain ⟨x2141, h2140, rfl, Th2140, Ph2140, Ch2140, hx2141⟩ := ho
            show cw_X _ _ _ _ _ [cv_i x2141] h2140
            have Fh2140 : cw_Fr cw_Ds cw_sh mk_lf h0 h2140 := cw_Fr_tr Fh (cw_Fr_mono (by decide +kernel) Ch2140)
            have eh2140_37 : ri_at h2140 111 37 = ri_at h 111 37 := ri_frf Ch2140 (d := 12) rfl rfl (by decide +kernel)
            have eh2140_38 : ri_at h2140 111 38 = ri_at h 111 38 := ri_frf Ch2140 (d := 12) rfl rfl (by decide +kernel)
            have eh2140_19 : ri_at h2140 111 19 = ri_at h 111 19 := ri_frf Ch2140 (d := 12) rfl rfl (by decide +kernel)
            have eh2140_40 : ri_at h2140 111 40 = ri_at h 111 40 := ri_frf Ch2140 (d := 12) rfl rfl (by decide +kernel)
            have eh2140_39 : ri_at h2140 111 39 = ri_at h 111 39 := ri_frf Ch2140 (d := 12) rfl rfl (by decide +kernel)
            have eh2140_41 : ri_at h2140 111 41 = ri_at h 111 41 := ri_frf Ch2140 (d := 12) rfl rfl (by decide +kernel)
            have eh2140_8 : ri_at h2140 111 8 = ri_at h 111 8 := ri_frf Ch2140 (d := 12) rfl rfl (by decide +kernel)
            have eh2140_9 : ri_at h2140 111 9 = ri_at h 111 9 := ri_frf Ch2140 (d := 12) rfl rfl (by decide +kernel)
            exact ex_retb oq_X12_signs_157 rfl (by omega) (by omega) (hQ x2141 h2140 Th2140 Ph2140 Fh2140 (.inl (by omega)))
      · refine ex_ic oq_X12_signs_56 (m := 3) (by decide) (fun x2142 hx2142 => ?_)
        refine ex_go oq_X12_signs_57 (t := 147) rfl rfl ?_
        refine ex_isA oq_X12_signs_147 (fun L2143 gL2143_1 kL2143 => ?_)
        have gL2143_0 : cv_get L2143 0 = some (cv_r 111) := kL2143 0 _ (by decide) (fun _ => rfl) rfl
        refine ex_il oq_X12_signs_148 gL2143_1 ?_
        refine ex_if0 oq_X12_signs_149 (t := 158) rfl rfl (fun (c2144 : ¬ x2142.toInt = 0) => ?_) (fun (c2144 : ¬ (¬ x2142.toInt = 0)) => ?_)
        · exact sg_158 hX hQ h Th Ph Fh hI (by omega) (by omega) x2142 (by omega) L2143 gL2143_0 gL2143_1
        · refine ex_al oq_X12_signs_152 gL2143_0 ?_
          refine ex_ic oq_X12_signs_153 (m := 1) (by decide) (fun x2145 hx2145 => ?_)
          refine ex_cv oq_X12_signs_154 (by decide) Th (k := 111) (d := 12) (as := [cv_i x2145]) (stk := []) rfl rfl rfl rfl rfl rfl ⟨rfl, rfl⟩ (R := fun o => ∃ (x : Int32) (hb : cv_H), o = (some (cv_i x), hb) ∧ cw_T G hb ∧ cw_PQ G c kd s hb ∧ cw_Fr cw_Ds cw_sh kk_X12_wrong.2.2.2.2.2.1 h hb ∧ x.toInt = 0) (sp_wrong Th Ph x2145 (fun x h a1 a2 a3 a4 => ⟨x, h, rfl, a1, a2, a3, a4⟩)) (fun o ho => ?_)
          obtain ⟨x2147, h2146, rfl, Th2146, Ph2146, Ch2146, hx2147⟩ := ho
          show cw_X _ _ _ _ _ [cv_i x2147] h2146
          have Fh2146 : cw_Fr cw_Ds cw_sh mk_lf h0 h2146 := cw_Fr_tr Fh (cw_Fr_mono (by decide +kernel) Ch2146)
          have eh2146_37 : ri_at h2146 111 37 = ri_at h 111 37 := ri_frf Ch2146 (d := 12) rfl rfl (by decide +kernel)
          have eh2146_38 : ri_at h2146 111 38 = ri_at h 111 38 := ri_frf Ch2146 (d := 12) rfl rfl (by decide +kernel)
          have eh2146_19 : ri_at h2146 111 19 = ri_at h 111 19 := ri_frf Ch2146 (d := 12) rfl rfl (by decide +kernel)
          have eh2146_40 : ri_at h2146 111 40 = ri_at h 111 40 := ri_frf Ch2146 (d := 12) rfl rfl (by decide +kernel)
          have eh2146_39 : ri_at h2146 111 39 = ri_at h 111 39 := ri_frf Ch2146 (d := 12) rfl rfl (by decide +kernel)
          have eh2146_41 : ri_at h2146 111 41 = ri_at h 111 41 := ri_frf Ch2146 (d := 12) rfl rfl (by decide +kernel)
          have eh2146_8 : ri_at h2146 111 8 = ri_at h 111 8 := ri_frf Ch2146 (d := 12) rfl rfl (by decide +kernel)
          have eh2146_9 : ri_at h2146 111 9 = ri_at h 111 9 := ri_frf Ch2146 (d := 12) rfl rfl (by decide +kernel)
          exact ex_retb oq_X12_signs_157 rfl (by omega) (by omega) (hQ x2147 h2146 Th2146 Ph2146 Fh2146 (.inl (by omega)))
    · refine ex_al oq_X12_signs_16 rfl ?_
      refine ex_ic oq_X12_signs_17 (m := 1) (by decide) (fun x2148 hx2148 => ?_)
      refine ex_cv oq_X12_signs_18 (by decide) Th (k := 111) (d := 12) (as := [cv_i x2148]) (stk := []) rfl rfl rfl rfl rfl rfl ⟨rfl, rfl⟩ (R := fun o => ∃ hb : cv_H, o = (none, hb) ∧ cw_T G hb ∧ cw_PP G hb ∧ cw_Fr cw_Ds cw_sh mk_bi h hb ∧ sn_I hb ∧ ri_at hb 111 41 = 0 ∧ (ri_at hb 111 37 ≤ 0 ∨ (x2148.toInt = 1 → 1 ≤ ri_at hb 111 37 → ri_at hb 128 ((ri_at hb 111 37).toNat - 1) = 0))) (sp_bind Th Ph.1 hI (by omega) x2148 (by omega) (fun h a0 a1 a2 a3 a4 a5 => ⟨h, rfl, a0, a1, a2, a3, a4, a5⟩)) (fun o ho => ?_)
      obtain ⟨h2149, rfl, Th2149, PPh2149, Ch2149, snh2149, eh2149_41, tph2149⟩ := ho
      show cw_X _ _ _ _ _ [] h2149
      have Fh2149 : cw_Fr cw_Ds cw_sh mk_lf h0 h2149 := cw_Fr_tr Fh (cw_Fr_mono (by decide +kernel) Ch2149)
      have eh2149_40 : ri_at h2149 111 40 = ri_at h 111 40 := ri_frf Ch2149 (d := 12) rfl rfl (by decide +kernel)
      have eh2149_39 : ri_at h2149 111 39 = ri_at h 111 39 := ri_frf Ch2149 (d := 12) rfl rfl (by decide +kernel)
      have eh2149_8 : ri_at h2149 111 8 = ri_at h 111 8 := ri_frf Ch2149 (d := 12) rfl rfl (by decide +kernel)
      have eh2149_9 : ri_at h2149 111 9 = ri_at h 111 9 := ri_frf Ch2149 (d := 12) rfl rfl (by decide +kernel)
      have Ph2149 : cw_PQ G c kd s h2149 := ⟨PPh2149, by
        rw [ri_frf Ch2149 (k := 111) (d := 12) (i := 6) rfl rfl (by decide +kernel), ri_frf Ch2149 (k := 111) (d := 12) (i := 7) rfl rfl (by decide +kernel), ri_frf Ch2149 (k := 111) (d := 12) (i := 8) rfl rfl (by decide +kernel)]
        exact Ph.2⟩
      obtain ⟨j0, -, j2, j3, j4, j5, j6⟩ := id snh2149
      have snn := sn_nn (ri_at h2149 128) (ri_at h2149 111 37).toNat
      have w1 : 1 ≤ ri_at h2149 111 37 := by omega
      refine ex_al oq_X12_signs_21 rfl ?_
      refine ex_dup oq_X12_signs_22 rfl ?_
      obtain ⟨x2150, ax2150, rx2150, lx2150, ux2150⟩ := fi_waits Th2149
      refine ex_gf oq_X12_signs_23 Th2149 (k := 111) (d := 12) rfl rfl ax2150 ?_
      refine ex_ic oq_X12_signs_26 (m := 1) (by decide) (fun x2151 hx2151 => ?_)
      refine ex_sub oq_X12_signs_27 (by omega) (fun x2152 hx2152 => ?_)
      refine ex_pfi oq_X12_signs_28 Th2149 (k := 111) (d := 12) rfl rfl rfl (by omega) (by omega) (fun h2153 Th2153 wh2153 => ?_)
      have Fh2153 : cw_Fr cw_Ds cw_sh mk_lf h0 h2153 := cw_Fr_tr Fh2149 (cw_Fr_wrf wh2153 (k := 111) (d := 12) rfl rfl (by decide +kernel))
      have eh2153_37 : ri_at h2153 111 37 = x2152.toInt := ri_self wh2153
      have eh2153_38 : ri_at h2153 111 38 = ri_at h2149 111 38 := ri_ne wh2153 (by decide)
      have eh2153_19 : ri_at h2153 111 19 = ri_at h2149 111 19 := ri_ne wh2153 (by decide)
      have eh2153_40 : ri_at h2153 111 40 = ri_at h2149 111 40 := ri_ne wh2153 (by decide)
      have eh2153_39 : ri_at h2153 111 39 = ri_at h2149 111 39 := ri_ne wh2153 (by decide)
      have eh2153_41 : ri_at h2153 111 41 = ri_at h2149 111 41 := ri_ne wh2153 (by decide)
      have eh2153_8 : ri_at h2153 111 8 = ri_at h2149 111 8 := ri_ne wh2153 (by decide)
      have eh2153_9 : ri_at h2153 111 9 = ri_at h2149 111 9 := ri_ne wh2153 (by decide)
      refine ex_al oq_X12_signs_31 rfl ?_
      refine ex_dup oq_X12_signs_32 rfl ?_
      obtain ⟨x2154, ax2154, rx2154, lx2154, ux2154⟩ := fi_brackets Th2153
      refine ex_gf oq_X12_signs_33 Th2153 (k := 111) (d := 12) rfl rfl ax2154 ?_
      refine ex_ic oq_X12_signs_36 (m := 1) (by decide) (fun x2155 hx2155 => ?_)
      refine ex_sub oq_X12_signs_37 (by omega) (fun x2156 hx2156 => ?_)
      refine ex_pfi oq_X12_signs_38 Th2153 (k := 111) (d := 12) rfl rfl rfl (by omega) (by omega) (fun h2157 Th2157 wh2157 => ?_)
      have Fh2157 : cw_Fr cw_Ds cw_sh mk_lf h0 h2157 := cw_Fr_tr Fh2153 (cw_Fr_wrf wh2157 (k := 111) (d := 12) rfl rfl (by decide +kernel))
      have eh2157_37 : ri_at h2157 111 37 = ri_at h2153 111 37 := ri_ne wh2157 (by decide)
      have eh2157_38 : ri_at h2157 111 38 = ri_at h2153 111 38 := ri_ne wh2157 (by decide)
      have eh2157_19 : ri_at h2157 111 19 = ri_at h2153 111 19 := ri_ne wh2157 (by decide)
      have eh2157_40 : ri_at h2157 111 40 = ri_at h2153 111 40 := ri_ne wh2157 (by decide)
      have eh2157_39 : ri_at h2157 111 39 = x2156.toInt := ri_self wh2157
      have eh2157_41 : ri_at h2157 111 41 = ri_at h2153 111 41 := ri_ne wh2157 (by decide)
      have eh2157_8 : ri_at h2157 111 8 = ri_at h2153 111 8 := ri_ne wh2157 (by decide)
      have eh2157_9 : ri_at h2157 111 9 = ri_at h2153 111 9 := ri_ne wh2157 (by decide)
      refine ex_al oq_X12_signs_41 rfl ?_
      have Ph2153 : cw_PQ G c kd s h2153 := pq_wf Ph2149 wh2153 (by decide)
      have Ph2157 : cw_PQ G c kd s h2157 := pq_wf Ph2153 wh2157 (by decide)
      refine ex_cv oq_X12_signs_42 (by decide) Th2157 (k := 111) (d := 12) (as := []) (stk := []) rfl rfl rfl rfl rfl rfl ⟨rfl, rfl⟩ (R := fun o => ∃ hb : cv_H, o = (none, hb) ∧ cw_T G hb ∧ cw_PQ G c kd s hb ∧ cw_Fr cw_Ds cw_sh kk_X12_token.2.2.2.2.2.1 h2157 hb ∧ (ri_at hb 111 8 = 0 ∨ c < ri_at hb 111 7)) (sp_tokenQ (cw_Xok_no2 hX) Th2157 Ph2157 (fun h a0 a1 a2 a3 => ⟨h, rfl, a0, a1, a2, a3⟩)) (fun o ho => ?_)
      obtain ⟨h2158, rfl, Th2158, Ph2158, Ch2158, prh2158⟩ := ho
      show cw_X _ _ _ _ _ [] h2158
      have Fh2158 : cw_Fr cw_Ds cw_sh mk_lf h0 h2158 := cw_Fr_tr Fh2157 (cw_Fr_mono (by decide +kernel) Ch2158)
      have eh2158_37 : ri_at h2158 111 37 = ri_at h2157 111 37 := ri_frf Ch2158 (d := 12) rfl rfl (by decide +kernel)
      have eh2158_38 : ri_at h2158 111 38 = ri_at h2157 111 38 := ri_frf Ch2158 (d := 12) rfl rfl (by decide +kernel)
      have eh2158_19 : ri_at h2158 111 19 = ri_at h2157 111 19 := ri_frf Ch2158 (d := 12) rfl rfl (by decide +kernel)
      have eh2158_40 : ri_at h2158 111 40 = ri_at h2157 111 40 := ri_frf Ch2158 (d := 12) rfl rfl (by decide +kernel)
      have eh2158_39 : ri_at h2158 111 39 = ri_at h2157 111 39 := ri_frf Ch2158 (d := 12) rfl rfl (by decide +kernel)
      have eh2158_41 : ri_at h2158 111 41 = ri_at h2157 111 41 := ri_frf Ch2158 (d := 12) rfl rfl (by decide +kernel)
      refine ex_ic oq_X12_signs_45 (m := 1) (by decide) (fun x2159 hx2159 => ?_)
      have tp0 : ri_at h2149 128 ((ri_at h2149 111 37).toNat - 1) = 0 := tph2149.elim (fun q => absurd q (by omega)) (fun q => q (by omega) w1)
      have snp : sn_I h2157 := by
        refine sn_pop snh2149 w1 (by omega) (fun i _ => ((ri_ne wh2157 (.inl (by decide))).trans (ri_ne wh2153 (.inl (by decide))))) ?_ (by omega) (by omega) ?_ ?_
        · rw [tp0]; simp; omega
        · rw [tp0]; simp; omega
        · rw [tp0]; simp; omega
      have snf : sn_I h2158 := sn_fr snp Ch2158 (by decide +kernel)
      exact ex_retb oq_X12_signs_46 rfl (by omega) (by omega) (hQ x2159 h2158 Th2158 Ph2158 Fh2158 (.inr ⟨by omega, snf, by omega, prh2158⟩))
end SPW
