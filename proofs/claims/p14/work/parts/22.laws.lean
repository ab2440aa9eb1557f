/-! ===== methods walked by hand: the laws ===== -/
section SPD
variable {G : Int}
theorem oq_X12_valueOf_0 : cw_ho 211 0 (.aload_n 0) 1 0 0 0 := rfl
theorem oq_X12_valueOf_1 : cw_ho 211 1 (.getfield 54) 3 12 32 4 := rfl
theorem oq_X12_valueOf_4 : cw_ho 211 4 (.iload_n 1) 1 0 0 0 := rfl
theorem oq_X12_valueOf_5 : cw_ho 211 5 (.iaload) 1 0 0 0 := rfl
theorem oq_X12_valueOf_6 : cw_ho 211 6 (.ifCond .ne 11) 3 0 0 0 := rfl
theorem oq_X12_valueOf_9 : cw_ho 211 9 (.aload_n 0) 1 0 0 0 := rfl
theorem oq_X12_valueOf_10 : cw_ho 211 10 (.getfield 57) 3 12 33 4 := rfl
theorem oq_X12_valueOf_13 : cw_ho 211 13 (.iload_n 1) 1 0 0 0 := rfl
theorem oq_X12_valueOf_14 : cw_ho 211 14 (.iaload) 1 0 0 0 := rfl
theorem oq_X12_valueOf_15 : cw_ho 211 15 (.i2l) 1 0 0 0 := rfl
theorem oq_X12_valueOf_16 : cw_ho 211 16 (.lreturn) 1 0 0 0 := rfl
theorem oq_X12_valueOf_17 : cw_ho 211 17 (.aload_n 0) 1 0 0 0 := rfl
theorem oq_X12_valueOf_18 : cw_ho 211 18 (.getfield 54) 3 12 32 4 := rfl
theorem oq_X12_valueOf_21 : cw_ho 211 21 (.iload_n 1) 1 0 0 0 := rfl
theorem oq_X12_valueOf_22 : cw_ho 211 22 (.iaload) 1 0 0 0 := rfl
theorem oq_X12_valueOf_23 : cw_ho 211 23 (.iconst 1) 1 0 0 0 := rfl
theorem oq_X12_valueOf_24 : cw_ho 211 24 (.if_icmp .ne 15) 3 0 0 0 := rfl
theorem oq_X12_valueOf_27 : cw_ho 211 27 (.aload_n 0) 1 0 0 0 := rfl
theorem oq_X12_valueOf_28 : cw_ho 211 28 (.getfield 75) 3 12 46 4 := rfl
theorem oq_X12_valueOf_31 : cw_ho 211 31 (.aload_n 0) 1 0 0 0 := rfl
theorem oq_X12_valueOf_32 : cw_ho 211 32 (.getfield 57) 3 12 33 4 := rfl
theorem oq_X12_valueOf_35 : cw_ho 211 35 (.iload_n 1) 1 0 0 0 := rfl
theorem oq_X12_valueOf_36 : cw_ho 211 36 (.iaload) 1 0 0 0 := rfl
theorem oq_X12_valueOf_37 : cw_ho 211 37 (.laload) 1 0 0 0 := rfl
theorem oq_X12_valueOf_38 : cw_ho 211 38 (.lreturn) 1 0 0 0 := rfl
theorem oq_X12_valueOf_39 : cw_ho 211 39 (.aload_n 0) 1 0 0 0 := rfl
theorem oq_X12_valueOf_40 : cw_ho 211 40 (.getfield 79) 3 12 47 4 := rfl
theorem oq_X12_valueOf_43 : cw_ho 211 43 (.aload_n 0) 1 0 0 0 := rfl
theorem oq_X12_valueOf_44 : cw_ho 211 44 (.getfield 57) 3 12 33 4 := rfl
theorem oq_X12_valueOf_47 : cw_ho 211 47 (.iload_n 1) 1 0 0 0 := rfl
theorem oq_X12_valueOf_48 : cw_ho 211 48 (.iaload) 1 0 0 0 := rfl
theorem oq_X12_valueOf_49 : cw_ho 211 49 (.laload) 1 0 0 0 := rfl
theorem oq_X12_valueOf_50 : cw_ho 211 50 (.lstore_n 2) 1 0 0 0 := rfl
theorem oq_X12_valueOf_51 : cw_ho 211 51 (.aload_n 0) 1 0 0 0 := rfl
theorem oq_X12_valueOf_52 : cw_ho 211 52 (.getfield 54) 3 12 32 4 := rfl
theorem oq_X12_valueOf_55 : cw_ho 211 55 (.iload_n 1) 1 0 0 0 := rfl
theorem oq_X12_valueOf_56 : cw_ho 211 56 (.iaload) 1 0 0 0 := rfl
theorem oq_X12_valueOf_57 : cw_ho 211 57 (.iconst 2) 1 0 0 0 := rfl
theorem oq_X12_valueOf_58 : cw_ho 211 58 (.if_icmp .ne 15) 3 0 0 0 := rfl
theorem oq_X12_valueOf_61 : cw_ho 211 61 (.lload_n 2) 1 0 0 0 := rfl
theorem oq_X12_valueOf_62 : cw_ho 211 62 (.lconst 0) 1 0 0 0 := rfl
theorem oq_X12_valueOf_63 : cw_ho 211 63 (.lcmp) 1 0 0 0 := rfl
theorem oq_X12_valueOf_64 : cw_ho 211 64 (.ifCond .ne 7) 3 0 0 0 := rfl
theorem oq_X12_valueOf_67 : cw_ho 211 67 (.lconst 1) 1 0 0 0 := rfl
theorem oq_X12_valueOf_68 : cw_ho 211 68 (.goto 4) 3 0 0 0 := rfl
theorem oq_X12_valueOf_71 : cw_ho 211 71 (.lconst 0) 1 0 0 0 := rfl
theorem oq_X12_valueOf_72 : cw_ho 211 72 (.lreturn) 1 0 0 0 := rfl
theorem oq_X12_valueOf_73 : cw_ho 211 73 (.aload_n 0) 1 0 0 0 := rfl
theorem oq_X12_valueOf_74 : cw_ho 211 74 (.getfield 79) 3 12 47 4 := rfl
theorem oq_X12_valueOf_77 : cw_ho 211 77 (.aload_n 0) 1 0 0 0 := rfl
theorem oq_X12_valueOf_78 : cw_ho 211 78 (.getfield 60) 3 12 34 4 := rfl
theorem oq_X12_valueOf_81 : cw_ho 211 81 (.iload_n 1) 1 0 0 0 := rfl
theorem oq_X12_valueOf_82 : cw_ho 211 82 (.iaload) 1 0 0 0 := rfl
theorem oq_X12_valueOf_83 : cw_ho 211 83 (.laload) 1 0 0 0 := rfl
theorem oq_X12_valueOf_84 : cw_ho 211 84 (.lstore 4) 2 0 0 0 := rfl
theorem oq_X12_valueOf_86 : cw_ho 211 86 (.aload_n 0) 1 0 0 0 := rfl
theorem oq_X12_valueOf_87 : cw_ho 211 87 (.getfield 54) 3 12 32 4 := rfl
theorem oq_X12_valueOf_90 : cw_ho 211 90 (.iload_n 1) 1 0 0 0 := rfl
theorem oq_X12_valueOf_91 : cw_ho 211 91 (.iaload) 1 0 0 0 := rfl
theorem oq_X12_valueOf_92 : cw_ho 211 92 (.tableswitch 167 3 14 #[64, 83, 167, 167, 167, 167, 167, 167, 102, 111, 120, 128]) 64 0 0 0 := rfl
theorem oq_X12_valueOf_156 : cw_ho 211 156 (.lload_n 2) 1 0 0 0 := rfl
theorem oq_X12_valueOf_157 : cw_ho 211 157 (.lconst 0) 1 0 0 0 := rfl
theorem oq_X12_valueOf_158 : cw_ho 211 158 (.lcmp) 1 0 0 0 := rfl
theorem oq_X12_valueOf_159 : cw_ho 211 159 (.ifCond .eq 14) 3 0 0 0 := rfl
theorem oq_X12_valueOf_162 : cw_ho 211 162 (.lload 4) 2 0 0 0 := rfl
theorem oq_X12_valueOf_164 : cw_ho 211 164 (.lconst 0) 1 0 0 0 := rfl
theorem oq_X12_valueOf_165 : cw_ho 211 165 (.lcmp) 1 0 0 0 := rfl
theorem oq_X12_valueOf_166 : cw_ho 211 166 (.ifCond .eq 7) 3 0 0 0 := rfl
theorem oq_X12_valueOf_169 : cw_ho 211 169 (.lconst 1) 1 0 0 0 := rfl
theorem oq_X12_valueOf_170 : cw_ho 211 170 (.goto 4) 3 0 0 0 := rfl
theorem oq_X12_valueOf_173 : cw_ho 211 173 (.lconst 0) 1 0 0 0 := rfl
theorem oq_X12_valueOf_174 : cw_ho 211 174 (.lreturn) 1 0 0 0 := rfl
theorem oq_X12_valueOf_175 : cw_ho 211 175 (.lload_n 2) 1 0 0 0 := rfl
theorem oq_X12_valueOf_176 : cw_ho 211 176 (.lconst 0) 1 0 0 0 := rfl
theorem oq_X12_valueOf_177 : cw_ho 211 177 (.lcmp) 1 0 0 0 := rfl
theorem oq_X12_valueOf_178 : cw_ho 211 178 (.ifCond .ne 10) 3 0 0 0 := rfl
theorem oq_X12_valueOf_181 : cw_ho 211 181 (.lload 4) 2 0 0 0 := rfl
theorem oq_X12_valueOf_183 : cw_ho 211 183 (.lconst 0) 1 0 0 0 := rfl
theorem oq_X12_valueOf_184 : cw_ho 211 184 (.lcmp) 1 0 0 0 := rfl
theorem oq_X12_valueOf_185 : cw_ho 211 185 (.ifCond .eq 7) 3 0 0 0 := rfl
theorem oq_X12_valueOf_188 : cw_ho 211 188 (.lconst 1) 1 0 0 0 := rfl
theorem oq_X12_valueOf_189 : cw_ho 211 189 (.goto 4) 3 0 0 0 := rfl
theorem oq_X12_valueOf_192 : cw_ho 211 192 (.lconst 0) 1 0 0 0 := rfl
theorem oq_X12_valueOf_193 : cw_ho 211 193 (.lreturn) 1 0 0 0 := rfl
theorem oq_X12_valueOf_194 : cw_ho 211 194 (.aload_n 0) 1 0 0 0 := rfl
theorem oq_X12_valueOf_195 : cw_ho 211 195 (.lload_n 2) 1 0 0 0 := rfl
theorem oq_X12_valueOf_196 : cw_ho 211 196 (.lload 4) 2 0 0 0 := rfl
theorem oq_X12_valueOf_198 : cw_ho 211 198 (.ladd) 1 0 0 0 := rfl
theorem oq_X12_valueOf_199 : cw_ho 211 199 (.invokevirtual 368) 3 208 1 12 := rfl
theorem oq_X12_valueOf_202 : cw_ho 211 202 (.lreturn) 1 0 0 0 := rfl
theorem oq_X12_valueOf_203 : cw_ho 211 203 (.aload_n 0) 1 0 0 0 := rfl
theorem oq_X12_valueOf_204 : cw_ho 211 204 (.lload_n 2) 1 0 0 0 := rfl
theorem oq_X12_valueOf_205 : cw_ho 211 205 (.lload 4) 2 0 0 0 := rfl
theorem oq_X12_valueOf_207 : cw_ho 211 207 (.lsub) 1 0 0 0 := rfl
theorem oq_X12_valueOf_208 : cw_ho 211 208 (.invokevirtual 368) 3 208 1 12 := rfl
theorem oq_X12_valueOf_211 : cw_ho 211 211 (.lreturn) 1 0 0 0 := rfl
theorem oq_X12_valueOf_212 : cw_ho 211 212 (.aload_n 0) 1 0 0 0 := rfl
theorem oq_X12_valueOf_213 : cw_ho 211 213 (.lload_n 2) 1 0 0 0 := rfl
theorem oq_X12_valueOf_214 : cw_ho 211 214 (.lload 4) 2 0 0 0 := rfl
theorem oq_X12_valueOf_216 : cw_ho 211 216 (.invokevirtual 372) 3 210 2 12 := rfl
theorem oq_X12_valueOf_219 : cw_ho 211 219 (.lreturn) 1 0 0 0 := rfl
theorem oq_X12_valueOf_220 : cw_ho 211 220 (.aload_n 0) 1 0 0 0 := rfl
theorem oq_X12_valueOf_221 : cw_ho 211 221 (.aload_n 0) 1 0 0 0 := rfl
theorem oq_X12_valueOf_222 : cw_ho 211 222 (.getfield 361) 3 12 48 2 := rfl
theorem oq_X12_valueOf_225 : cw_ho 211 225 (.ifCond .ne 10) 3 0 0 0 := rfl
theorem oq_X12_valueOf_228 : cw_ho 211 228 (.lload 4) 2 0 0 0 := rfl
theorem oq_X12_valueOf_230 : cw_ho 211 230 (.lconst 0) 1 0 0 0 := rfl
theorem oq_X12_valueOf_231 : cw_ho 211 231 (.lcmp) 1 0 0 0 := rfl
theorem oq_X12_valueOf_232 : cw_ho 211 232 (.ifCond .ne 7) 3 0 0 0 := rfl
theorem oq_X12_valueOf_235 : cw_ho 211 235 (.iconst 1) 1 0 0 0 := rfl
theorem oq_X12_valueOf_236 : cw_ho 211 236 (.goto 4) 3 0 0 0 := rfl
theorem oq_X12_valueOf_239 : cw_ho 211 239 (.iconst 0) 1 0 0 0 := rfl
theorem oq_X12_valueOf_240 : cw_ho 211 240 (.putfield 361) 3 12 48 2 := rfl
theorem oq_X12_valueOf_243 : cw_ho 211 243 (.aload_n 0) 1 0 0 0 := rfl
theorem oq_X12_valueOf_244 : cw_ho 211 244 (.getfield 361) 3 12 48 2 := rfl
theorem oq_X12_valueOf_247 : cw_ho 211 247 (.ifCond .eq 7) 3 0 0 0 := rfl
theorem oq_X12_valueOf_250 : cw_ho 211 250 (.lconst 0) 1 0 0 0 := rfl
theorem oq_X12_valueOf_251 : cw_ho 211 251 (.goto 7) 3 0 0 0 := rfl
theorem oq_X12_valueOf_254 : cw_ho 211 254 (.lload_n 2) 1 0 0 0 := rfl
theorem oq_X12_valueOf_255 : cw_ho 211 255 (.lload 4) 2 0 0 0 := rfl
theorem oq_X12_valueOf_257 : cw_ho 211 257 (.ldiv) 1 0 0 0 := rfl
theorem oq_X12_valueOf_258 : cw_ho 211 258 (.lreturn) 1 0 0 0 := rfl
theorem oq_X12_valueOf_259 : cw_ho 211 259 (.aload_n 0) 1 0 0 0 := rfl
theorem oq_X12_valueOf_260 : cw_ho 211 260 (.getfield 54) 3 12 32 4 := rfl
theorem oq_X12_valueOf_263 : cw_ho 211 263 (.iload_n 1) 1 0 0 0 := rfl
theorem oq_X12_valueOf_264 : cw_ho 211 264 (.iaload) 1 0 0 0 := rfl
theorem oq_X12_valueOf_265 : cw_ho 211 265 (.lload_n 2) 1 0 0 0 := rfl
theorem oq_X12_valueOf_266 : cw_ho 211 266 (.lload 4) 2 0 0 0 := rfl
theorem oq_X12_valueOf_268 : cw_ho 211 268 (.invokestatic 376) 3 209 3 0 := rfl
theorem oq_X12_valueOf_271 : cw_ho 211 271 (.ifCond .eq 7) 3 0 0 0 := rfl
theorem oq_X12_valueOf_274 : cw_ho 211 274 (.lconst 1) 1 0 0 0 := rfl
theorem oq_X12_valueOf_275 : cw_ho 211 275 (.goto 4) 3 0 0 0 := rfl
theorem oq_X12_valueOf_278 : cw_ho 211 278 (.lconst 0) 1 0 0 0 := rfl
theorem oq_X12_valueOf_279 : cw_ho 211 279 (.lreturn) 1 0 0 0 := rfl
theorem hk_X12_valueOf (hbd : cw_Holds fk_all mt_all cw_Ds cw_sh G (cw_PP G) kk_X12_bounded) (htm : cw_Holds fk_all mt_all cw_Ds cw_sh G (cw_PP G) kk_X12_times) (hcm : cw_Holds fk_all mt_all cw_Ds cw_sh G (cw_PP G) kk_X12_compares) : cw_Holds fk_all mt_all cw_Ds cw_sh G (cw_PP G) kk_X12_valueOf := by
  refine cw_XH fun X h av hX hT hP hg hfp => ?_
  match av, hg with
  | [v0, v1], ⟨h0, ⟨k, e1, rk⟩, _⟩ =>
  obtain rfl : v0 = cv_r 111 := by
    rcases h0 with ⟨-, k, rfl, hk⟩ | ⟨j, hj, -⟩
    · rw [ri_uniq (d := 12) (k := 111) (by decide +kernel) k hk]
    · omega
  subst e1
  have k0 := rk.1
  have k1 := rk.2.1
  dsimp only at k0 k1
  have hk3 := hP.2.2.1 k.toInt.toNat (by omega)
  have Fh : cw_Fr cw_Ds cw_sh kk_X12_valueOf.2.2.2.2.2.1 h h := cw_Fr_refl
  refine ex_al oq_X12_valueOf_0 rfl ?_
  refine ex_gf oq_X12_valueOf_1 hT (k := 111) (d := 12) rfl rfl (fr_knot hT) ?_
  refine ex_il oq_X12_valueOf_4 rfl ?_
  refine ex_ia1 oq_X12_valueOf_5 hT (k := 125) (d := 64) (j := k.toInt.toNat) rfl rfl (by omega) (by omega) (fun x1 hx1 lx1 ux1 => ?_)
  refine ex_if0 oq_X12_valueOf_6 (t := 17) rfl rfl (fun (c2 : ¬ x1.toInt = 0) => ?_) (fun (c2 : ¬ (¬ x1.toInt = 0)) => ?_)
  · refine ex_al oq_X12_valueOf_17 rfl ?_
    refine ex_gf oq_X12_valueOf_18 hT (k := 111) (d := 12) rfl rfl (fr_knot hT) ?_
    refine ex_il oq_X12_valueOf_21 rfl ?_
    refine ex_ia1 oq_X12_valueOf_22 hT (k := 125) (d := 64) (j := k.toInt.toNat) rfl rfl (by omega) (by omega) (fun x3 hx3 lx3 ux3 => ?_)
    refine ex_ic oq_X12_valueOf_23 (m := 1) (by decide) (fun x4 hx4 => ?_)
    refine ex_if oq_X12_valueOf_24 (t := 39) rfl rfl (fun (c5 : ¬ x3.toInt = x4.toInt) => ?_) (fun (c5 : ¬ (¬ x3.toInt = x4.toInt)) => ?_)
    · refine ex_al oq_X12_valueOf_39 rfl ?_
      refine ex_gf oq_X12_valueOf_40 hT (k := 111) (d := 12) rfl rfl (fr_value hT) ?_
      refine ex_al oq_X12_valueOf_43 rfl ?_
      refine ex_gf oq_X12_valueOf_44 hT (k := 111) (d := 12) rfl rfl (fr_part hT) ?_
      refine ex_il oq_X12_valueOf_47 rfl ?_
      refine ex_ia1 oq_X12_valueOf_48 hT (k := 126) (d := 65) (j := k.toInt.toNat) rfl rfl (by omega) (by omega) (fun x6 hx6 lx6 ux6 => ?_)
      refine ex_la oq_X12_valueOf_49 hT (k := 133) (d := 72) (j := x6.toInt.toNat) rfl rfl (by omega) (by omega) (fun x7 hx7 => ?_)
      refine ex_lsA oq_X12_valueOf_50 (fun L8 gL8_2 kL8 => ?_)
      have gL8_0 : cv_get L8 0 = some (cv_r 111) := kL8 0 _ (by decide) (by decide) (fun q => absurd q (by decide)) rfl
      have gL8_1 : cv_get L8 1 = some (cv_i k) := kL8 1 _ (by decide) (by decide) (fun _ => rfl) rfl
      refine ex_al oq_X12_valueOf_51 gL8_0 ?_
      refine ex_gf oq_X12_valueOf_52 hT (k := 111) (d := 12) rfl rfl (fr_knot hT) ?_
      refine ex_il oq_X12_valueOf_55 gL8_1 ?_
      refine ex_ia1 oq_X12_valueOf_56 hT (k := 125) (d := 64) (j := k.toInt.toNat) rfl rfl (by omega) (by omega) (fun x9 hx9 lx9 ux9 => ?_)
      refine ex_ic oq_X12_valueOf_57 (m := 2) (by decide) (fun x10 hx10 => ?_)
      refine ex_if oq_X12_valueOf_58 (t := 73) rfl rfl (fun (c11 : ¬ x9.toInt = x10.toInt) => ?_) (fun (c11 : ¬ (¬ x9.toInt = x10.toInt)) => ?_)
      · refine ex_al oq_X12_valueOf_73 gL8_0 ?_
        refine ex_gf oq_X12_valueOf_74 hT (k := 111) (d := 12) rfl rfl (fr_value hT) ?_
        refine ex_al oq_X12_valueOf_77 gL8_0 ?_
        refine ex_gf oq_X12_valueOf_78 hT (k := 111) (d := 12) rfl rfl (fr_other hT) ?_
        refine ex_il oq_X12_valueOf_81 gL8_1 ?_
        refine ex_ia1 oq_X12_valueOf_82 hT (k := 127) (d := 66) (j := k.toInt.toNat) rfl rfl (by omega) (by omega) (fun x12 hx12 lx12 ux12 => ?_)
        refine ex_la oq_X12_valueOf_83 hT (k := 133) (d := 72) (j := x12.toInt.toNat) rfl rfl (by omega) (by omega) (fun x13 hx13 => ?_)
        refine ex_lswA oq_X12_valueOf_84 (fun L14 gL14_4 kL14 => ?_)
        have gL14_2 : cv_get L14 2 = some (cv_l x7) := kL14 2 _ (by decide) (by decide) (fun q => absurd q (by decide)) gL8_2
        have gL14_0 : cv_get L14 0 = some (cv_r 111) := kL14 0 _ (by decide) (by decide) (fun q => absurd q (by decide)) gL8_0
        have gL14_1 : cv_get L14 1 = some (cv_i k) := kL14 1 _ (by decide) (by decide) (fun q => absurd q (by decide)) gL8_1
        refine ex_al oq_X12_valueOf_86 gL14_0 ?_
        refine ex_gf oq_X12_valueOf_87 hT (k := 111) (d := 12) rfl rfl (fr_knot hT) ?_
        refine ex_il oq_X12_valueOf_90 gL14_1 ?_
        refine ex_ia1 oq_X12_valueOf_91 hT (k := 125) (d := 64) (j := k.toInt.toNat) rfl rfl (by omega) (by omega) (fun x15 hx15 lx15 ux15 => ?_)
        refine ex_tsw oq_X12_valueOf_92 rfl (fun c16 => ⟨rfl, ?_⟩) (fun i hi c16 => ?_)
        · show cw_X _ _ _ 259 _ _ _
          refine ex_al oq_X12_valueOf_259 gL14_0 ?_
          refine ex_gf oq_X12_valueOf_260 hT (k := 111) (d := 12) rfl rfl (fr_knot hT) ?_
          refine ex_il oq_X12_valueOf_263 gL14_1 ?_
          refine ex_ia1 oq_X12_valueOf_264 hT (k := 125) (d := 64) (j := k.toInt.toNat) rfl rfl (by omega) (by omega) (fun x17 hx17 lx17 ux17 => ?_)
          refine ex_ll oq_X12_valueOf_265 gL14_2 ?_
          refine ex_llw oq_X12_valueOf_266 gL14_4 ?_
          have Ph : cw_PP G h := pp_fr0 (by decide +kernel) hP Fh
          refine ex_cs oq_X12_valueOf_268 (by decide) (as := [cv_i x17, cv_l x7, cv_l x13]) (stk := []) rfl rfl rfl ⟨rfl, rfl⟩ (cw_HX hcm rfl (cw_Xok_no2 hX) ⟨hT, Ph⟩ ⟨⟨_, rfl, cw_top_ok _⟩, ⟨_, rfl, cw_topL_ok _⟩, ⟨_, rfl, cw_topL_ok _⟩, trivial⟩ (fun t ht => absurd ht List.not_mem_nil)) (fun ox19 hox19 => ?_)
          obtain ⟨x19, h18, rfl, rx19, Th18, Ph18, Ch18, tx19⟩ := po_int hox19 rfl
          have lx19 := rx19.1
          have ux19 := rx19.2.1
          try dsimp only at lx19 ux19
          show cw_X _ _ _ _ _ [cv_i x19] h18
          have Fh18 : cw_Fr cw_Ds cw_sh kk_X12_valueOf.2.2.2.2.2.1 h h18 := cw_Fr_tr Fh (cw_Fr_mono (by decide +kernel) Ch18)
          have eh18_48 : ri_at h18 111 48 = ri_at h 111 48 := ri_frf Ch18 (d := 12) rfl rfl (by decide +kernel)
          refine ex_if0 oq_X12_valueOf_271 (t := 278) rfl rfl (fun (c20 : x19.toInt = 0) => ?_) (fun (c20 : ¬ (x19.toInt = 0)) => ?_)
          · refine ex_lc oq_X12_valueOf_278 (m := 0) (by decide) (fun x21 hx21 => ?_)
            exact ex_retl oq_X12_valueOf_279 rfl ⟨⟨x21, rfl, cw_topL_ok _⟩, ⟨Th18, pp_fr0 (by decide +kernel) hP Fh18⟩, Fh18, fun y hy hy0 => ⟨fun t ht => absurd ht List.not_mem_nil, fun t ht => absurd ht List.not_mem_nil⟩⟩
          · refine ex_lc oq_X12_valueOf_274 (m := 1) (by decide) (fun x22 hx22 => ?_)
            refine ex_go oq_X12_valueOf_275 (t := 279) rfl rfl ?_
            exact ex_retl oq_X12_valueOf_279 rfl ⟨⟨x22, rfl, cw_topL_ok _⟩, ⟨Th18, pp_fr0 (by decide +kernel) hP Fh18⟩, Fh18, fun y hy hy0 => ⟨fun t ht => absurd ht List.not_mem_nil, fun t ht => absurd ht List.not_mem_nil⟩⟩
        · match i, hi, c16 with
          | 0, _, c16 =>
            refine ⟨rfl, ?_⟩
            show cw_X _ _ _ 156 _ _ _
            refine ex_ll oq_X12_valueOf_156 gL14_2 ?_
            refine ex_lc oq_X12_valueOf_157 (m := 0) (by decide) (fun x23 hx23 => ?_)
            refine ex_lcmp oq_X12_valueOf_158 (fun x24 hx24 => ?_)
            refine ex_if0 oq_X12_valueOf_159 (t := 173) rfl rfl (fun (c25 : x24.toInt = 0) => ?_) (fun (c25 : ¬ (x24.toInt = 0)) => ?_)
            · refine ex_lc oq_X12_valueOf_173 (m := 0) (by decide) (fun x26 hx26 => ?_)
              exact ex_retl oq_X12_valueOf_174 rfl ⟨⟨x26, rfl, cw_topL_ok _⟩, ⟨hT, pp_fr0 (by decide +kernel) hP Fh⟩, Fh, fun y hy hy0 => ⟨fun t ht => absurd ht List.not_mem_nil, fun t ht => absurd ht List.not_mem_nil⟩⟩
            · refine ex_llw oq_X12_valueOf_162 gL14_4 ?_
              refine ex_lc oq_X12_valueOf_164 (m := 0) (by decide) (fun x27 hx27 => ?_)
              refine ex_lcmp oq_X12_valueOf_165 (fun x28 hx28 => ?_)
              refine ex_if0 oq_X12_valueOf_166 (t := 173) rfl rfl (fun (c29 : x28.toInt = 0) => ?_) (fun (c29 : ¬ (x28.toInt = 0)) => ?_)
              · refine ex_lc oq_X12_valueOf_173 (m := 0) (by decide) (fun x30 hx30 => ?_)
                exact ex_retl oq_X12_valueOf_174 rfl ⟨⟨x30, rfl, cw_topL_ok _⟩, ⟨hT, pp_fr0 (by decide +kernel) hP Fh⟩, Fh, fun y hy hy0 => ⟨fun t ht => absurd ht List.not_mem_nil, fun t ht => absurd ht List.not_mem_nil⟩⟩
              · refine ex_lc oq_X12_valueOf_169 (m := 1) (by decide) (fun x31 hx31 => ?_)
                refine ex_go oq_X12_valueOf_170 (t := 174) rfl rfl ?_
                exact ex_retl oq_X12_valueOf_174 rfl ⟨⟨x31, rfl, cw_topL_ok _⟩, ⟨hT, pp_fr0 (by decide +kernel) hP Fh⟩, Fh, fun y hy hy0 => ⟨fun t ht => absurd ht List.not_mem_nil, fun t ht => absurd ht List.not_mem_nil⟩⟩
          | 1, _, c16 =>
            refine ⟨rfl, ?_⟩
            show cw_X _ _ _ 175 _ _ _
            refine ex_ll oq_X12_valueOf_175 gL14_2 ?_
            refine ex_lc oq_X12_valueOf_176 (m := 0) (by decide) (fun x32 hx32 => ?_)
            refine ex_lcmp oq_X12_valueOf_177 (fun x33 hx33 => ?_)
            refine ex_if0 oq_X12_valueOf_178 (t := 188) rfl rfl (fun (c34 : ¬ x33.toInt = 0) => ?_) (fun (c34 : ¬ (¬ x33.toInt = 0)) => ?_)
            · refine ex_lc oq_X12_valueOf_188 (m := 1) (by decide) (fun x35 hx35 => ?_)
              refine ex_go oq_X12_valueOf_189 (t := 193) rfl rfl ?_
              exact ex_retl oq_X12_valueOf_193 rfl ⟨⟨x35, rfl, cw_topL_ok _⟩, ⟨hT, pp_fr0 (by decide +kernel) hP Fh⟩, Fh, fun y hy hy0 => ⟨fun t ht => absurd ht List.not_mem_nil, fun t ht => absurd ht List.not_mem_nil⟩⟩
            · refine ex_llw oq_X12_valueOf_181 gL14_4 ?_
              refine ex_lc oq_X12_valueOf_183 (m := 0) (by decide) (fun x36 hx36 => ?_)
              refine ex_lcmp oq_X12_valueOf_184 (fun x37 hx37 => ?_)
              refine ex_if0 oq_X12_valueOf_185 (t := 192) rfl rfl (fun (c38 : x37.toInt = 0) => ?_) (fun (c38 : ¬ (x37.toInt = 0)) => ?_)
              · refine ex_lc oq_X12_valueOf_192 (m := 0) (by decide) (fun x39 hx39 => ?_)
                exact ex_retl oq_X12_valueOf_193 rfl ⟨⟨x39, rfl, cw_topL_ok _⟩, ⟨hT, pp_fr0 (by decide +kernel) hP Fh⟩, Fh, fun y hy hy0 => ⟨fun t ht => absurd ht List.not_mem_nil, fun t ht => absurd ht List.not_mem_nil⟩⟩
              · refine ex_lc oq_X12_valueOf_188 (m := 1) (by decide) (fun x40 hx40 => ?_)
                refine ex_go oq_X12_valueOf_189 (t := 193) rfl rfl ?_
                exact ex_retl oq_X12_valueOf_193 rfl ⟨⟨x40, rfl, cw_topL_ok _⟩, ⟨hT, pp_fr0 (by decide +kernel) hP Fh⟩, Fh, fun y hy hy0 => ⟨fun t ht => absurd ht List.not_mem_nil, fun t ht => absurd ht List.not_mem_nil⟩⟩
          | 2, _, c16 =>
            refine ⟨rfl, ?_⟩
            show cw_X _ _ _ 259 _ _ _
            refine ex_al oq_X12_valueOf_259 gL14_0 ?_
            refine ex_gf oq_X12_valueOf_260 hT (k := 111) (d := 12) rfl rfl (fr_knot hT) ?_
            refine ex_il oq_X12_valueOf_263 gL14_1 ?_
            refine ex_ia1 oq_X12_valueOf_264 hT (k := 125) (d := 64) (j := k.toInt.toNat) rfl rfl (by omega) (by omega) (fun x41 hx41 lx41 ux41 => ?_)
            refine ex_ll oq_X12_valueOf_265 gL14_2 ?_
            refine ex_llw oq_X12_valueOf_266 gL14_4 ?_
            have Ph : cw_PP G h := pp_fr0 (by decide +kernel) hP Fh
            refine ex_cs oq_X12_valueOf_268 (by decide) (as := [cv_i x41, cv_l x7, cv_l x13]) (stk := []) rfl rfl rfl ⟨rfl, rfl⟩ (cw_HX hcm rfl (cw_Xok_no2 hX) ⟨hT, Ph⟩ ⟨⟨_, rfl, cw_top_ok _⟩, ⟨_, rfl, cw_topL_ok _⟩, ⟨_, rfl, cw_topL_ok _⟩, trivial⟩ (fun t ht => absurd ht List.not_mem_nil)) (fun ox43 hox43 => ?_)
            obtain ⟨x43, h42, rfl, rx43, Th42, Ph42, Ch42, tx43⟩ := po_int hox43 rfl
            have lx43 := rx43.1
            have ux43 := rx43.2.1
            try dsimp only at lx43 ux43
            show cw_X _ _ _ _ _ [cv_i x43] h42
            have Fh42 : cw_Fr cw_Ds cw_sh kk_X12_valueOf.2.2.2.2.2.1 h h42 := cw_Fr_tr Fh (cw_Fr_mono (by decide +kernel) Ch42)
            have eh42_48 : ri_at h42 111 48 = ri_at h 111 48 := ri_frf Ch42 (d := 12) rfl rfl (by decide +kernel)
            refine ex_if0 oq_X12_valueOf_271 (t := 278) rfl rfl (fun (c44 : x43.toInt = 0) => ?_) (fun (c44 : ¬ (x43.toInt = 0)) => ?_)
            · refine ex_lc oq_X12_valueOf_278 (m := 0) (by decide) (fun x45 hx45 => ?_)
              exact ex_retl oq_X12_valueOf_279 rfl ⟨⟨x45, rfl, cw_topL_ok _⟩, ⟨Th42, pp_fr0 (by decide +kernel) hP Fh42⟩, Fh42, fun y hy hy0 => ⟨fun t ht => absurd ht List.not_mem_nil, fun t ht => absurd ht List.not_mem_nil⟩⟩
            · refine ex_lc oq_X12_valueOf_274 (m := 1) (by decide) (fun x46 hx46 => ?_)
              refine ex_go oq_X12_valueOf_275 (t := 279) rfl rfl ?_
              exact ex_retl oq_X12_valueOf_279 rfl ⟨⟨x46, rfl, cw_topL_ok _⟩, ⟨Th42, pp_fr0 (by decide +kernel) hP Fh42⟩, Fh42, fun y hy hy0 => ⟨fun t ht => absurd ht List.not_mem_nil, fun t ht => absurd ht List.not_mem_nil⟩⟩
          | 3, _, c16 =>
            refine ⟨rfl, ?_⟩
            show cw_X _ _ _ 259 _ _ _
            refine ex_al oq_X12_valueOf_259 gL14_0 ?_
            refine ex_gf oq_X12_valueOf_260 hT (k := 111) (d := 12) rfl rfl (fr_knot hT) ?_
            refine ex_il oq_X12_valueOf_263 gL14_1 ?_
            refine ex_ia1 oq_X12_valueOf_264 hT (k := 125) (d := 64) (j := k.toInt.toNat) rfl rfl (by omega) (by omega) (fun x47 hx47 lx47 ux47 => ?_)
            refine ex_ll oq_X12_valueOf_265 gL14_2 ?_
            refine ex_llw oq_X12_valueOf_266 gL14_4 ?_
            have Ph : cw_PP G h := pp_fr0 (by decide +kernel) hP Fh
            refine ex_cs oq_X12_valueOf_268 (by decide) (as := [cv_i x47, cv_l x7, cv_l x13]) (stk := []) rfl rfl rfl ⟨rfl, rfl⟩ (cw_HX hcm rfl (cw_Xok_no2 hX) ⟨hT, Ph⟩ ⟨⟨_, rfl, cw_top_ok _⟩, ⟨_, rfl, cw_topL_ok _⟩, ⟨_, rfl, cw_topL_ok _⟩, trivial⟩ (fun t ht => absurd ht List.not_mem_nil)) (fun ox49 hox49 => ?_)
            obtain ⟨x49, h48, rfl, rx49, Th48, Ph48, Ch48, tx49⟩ := po_int hox49 rfl
            have lx49 := rx49.1
            have ux49 := rx49.2.1
            try dsimp only at lx49 ux49
            show cw_X _ _ _ _ _ [cv_i x49] h48
            have Fh48 : cw_Fr cw_Ds cw_sh kk_X12_valueOf.2.2.2.2.2.1 h h48 := cw_Fr_tr Fh (cw_Fr_mono (by decide +kernel) Ch48)
            have eh48_48 : ri_at h48 111 48 = ri_at h 111 48 := ri_frf Ch48 (d := 12) rfl rfl (by decide +kernel)
            refine ex_if0 oq_X12_valueOf_271 (t := 278) rfl rfl (fun (c50 : x49.toInt = 0) => ?_) (fun (c50 : ¬ (x49.toInt = 0)) => ?_)
            · refine ex_lc oq_X12_valueOf_278 (m := 0) (by decide) (fun x51 hx51 => ?_)
              exact ex_retl oq_X12_valueOf_279 rfl ⟨⟨x51, rfl, cw_topL_ok _⟩, ⟨Th48, pp_fr0 (by decide +kernel) hP Fh48⟩, Fh48, fun y hy hy0 => ⟨fun t ht => absurd ht List.not_mem_nil, fun t ht => absurd ht List.not_mem_nil⟩⟩
            · refine ex_lc oq_X12_valueOf_274 (m := 1) (by decide) (fun x52 hx52 => ?_)
              refine ex_go oq_X12_valueOf_275 (t := 279) rfl rfl ?_
              exact ex_retl oq_X12_valueOf_279 rfl ⟨⟨x52, rfl, cw_topL_ok _⟩, ⟨Th48, pp_fr0 (by decide +kernel) hP Fh48⟩, Fh48, fun y hy hy0 => ⟨fun t ht => absurd ht List.not_mem_nil, fun t ht => absurd ht List.not_mem_nil⟩⟩
          | 4, _, c16 =>
            refine ⟨rfl, ?_⟩
            show cw_X _ _ _ 259 _ _ _
            refine ex_al oq_X12_valueOf_259 gL14_0 ?_
            refine ex_gf oq_X12_valueOf_260 hT (k := 111) (d := 12) rfl rfl (fr_knot hT) ?_
            refine ex_il oq_X12_valueOf_263 gL14_1 ?_
            refine ex_ia1 oq_X12_valueOf_264 hT (k := 125) (d := 64) (j := k.toInt.toNat) rfl rfl (by omega) (by omega) (fun x53 hx53 lx53 ux53 => ?_)
            refine ex_ll oq_X12_valueOf_265 gL14_2 ?_
            refine ex_llw oq_X12_valueOf_266 gL14_4 ?_
            have Ph : cw_PP G h := pp_fr0 (by decide +kernel) hP Fh
            refine ex_cs oq_X12_valueOf_268 (by decide) (as := [cv_i x53, cv_l x7, cv_l x13]) (stk := []) rfl rfl rfl ⟨rfl, rfl⟩ (cw_HX hcm rfl (cw_Xok_no2 hX) ⟨hT, Ph⟩ ⟨⟨_, rfl, cw_top_ok _⟩, ⟨_, rfl, cw_topL_ok _⟩, ⟨_, rfl, cw_topL_ok _⟩, trivial⟩ (fun t ht => absurd ht List.not_mem_nil)) (fun ox55 hox55 => ?_)
            obtain ⟨x55, h54, rfl, rx55, Th54, Ph54, Ch54, tx55⟩ := po_int hox55 rfl
            have lx55 := rx55.1
            have ux55 := rx55.2.1
            try dsimp only at lx55 ux55
            show cw_X _ _ _ _ _ [cv_i x55] h54
            have Fh54 : cw_Fr cw_Ds cw_sh kk_X12_valueOf.2.2.2.2.2.1 h h54 := cw_Fr_tr Fh (cw_Fr_mono (by decide +kernel) Ch54)
            have eh54_48 : ri_at h54 111 48 = ri_at h 111 48 := ri_frf Ch54 (d := 12) rfl rfl (by decide +kernel)
            refine ex_if0 oq_X12_valueOf_271 (t := 278) rfl rfl (fun (c56 : x55.toInt = 0) => ?_) (fun (c56 : ¬ (x55.toInt = 0)) => ?_)
            · refine ex_lc oq_X12_valueOf_278 (m := 0) (by decide) (fun x57 hx57 => ?_)
              exact ex_retl oq_X12_valueOf_279 rfl ⟨⟨x57, rfl, cw_topL_ok _⟩, ⟨Th54, pp_fr0 (by decide +kernel) hP Fh54⟩, Fh54, fun y hy hy0 => ⟨fun t ht => absurd ht List.not_mem_nil, fun t ht => absurd ht List.not_mem_nil⟩⟩
            · refine ex_lc oq_X12_valueOf_274 (m := 1) (by decide) (fun x58 hx58 => ?_)
              refine ex_go oq_X12_valueOf_275 (t := 279) rfl rfl ?_
              exact ex_retl oq_X12_valueOf_279 rfl ⟨⟨x58, rfl, cw_topL_ok _⟩, ⟨Th54, pp_fr0 (by decide +kernel) hP Fh54⟩, Fh54, fun y hy hy0 => ⟨fun t ht => absurd ht List.not_mem_nil, fun t ht => absurd ht List.not_mem_nil⟩⟩
          | 5, _, c16 =>
            refine ⟨rfl, ?_⟩
            show cw_X _ _ _ 259 _ _ _
            refine ex_al oq_X12_valueOf_259 gL14_0 ?_
            refine ex_gf oq_X12_valueOf_260 hT (k := 111) (d := 12) rfl rfl (fr_knot hT) ?_
            refine ex_il oq_X12_valueOf_263 gL14_1 ?_
            refine ex_ia1 oq_X12_valueOf_264 hT (k := 125) (d := 64) (j := k.toInt.toNat) rfl rfl (by omega) (by omega) (fun x59 hx59 lx59 ux59 => ?_)
            refine ex_ll oq_X12_valueOf_265 gL14_2 ?_
            refine ex_llw oq_X12_valueOf_266 gL14_4 ?_
            have Ph : cw_PP G h := pp_fr0 (by decide +kernel) hP Fh
            refine ex_cs oq_X12_valueOf_268 (by decide) (as := [cv_i x59, cv_l x7, cv_l x13]) (stk := []) rfl rfl rfl ⟨rfl, rfl⟩ (cw_HX hcm rfl (cw_Xok_no2 hX) ⟨hT, Ph⟩ ⟨⟨_, rfl, cw_top_ok _⟩, ⟨_, rfl, cw_topL_ok _⟩, ⟨_, rfl, cw_topL_ok _⟩, trivial⟩ (fun t ht => absurd ht List.not_mem_nil)) (fun ox61 hox61 => ?_)
            obtain ⟨x61, h60, rfl, rx61, Th60, Ph60, Ch60, tx61⟩ := po_int hox61 rfl
            have lx61 := rx61.1
            have ux61 := rx61.2.1
            try dsimp only at lx61 ux61
            show cw_X _ _ _ _ _ [cv_i x61] h60
            have Fh60 : cw_Fr cw_Ds cw_sh kk_X12_valueOf.2.2.2.2.2.1 h h60 := cw_Fr_tr Fh (cw_Fr_mono (by decide +kernel) Ch60)
            have eh60_48 : ri_at h60 111 48 = ri_at h 111 48 := ri_frf Ch60 (d := 12) rfl rfl (by decide +kernel)
            refine ex_if0 oq_X12_valueOf_271 (t := 278) rfl rfl (fun (c62 : x61.toInt = 0) => ?_) (fun (c62 : ¬ (x61.toInt = 0)) => ?_)
            · refine ex_lc oq_X12_valueOf_278 (m := 0) (by decide) (fun x63 hx63 => ?_)
              exact ex_retl oq_X12_valueOf_279 rfl ⟨⟨x63, rfl, cw_topL_ok _⟩, ⟨Th60, pp_fr0 (by decide +kernel) hP Fh60⟩, Fh60, fun y hy hy0 => ⟨fun t ht => absurd ht List.not_mem_nil, fun t ht => absurd ht List.not_mem_nil⟩⟩
            · refine ex_lc oq_X12_valueOf_274 (m := 1) (by decide) (fun x64 hx64 => ?_)
              refine ex_go oq_X12_valueOf_275 (t := 279) rfl rfl ?_
              exact ex_retl oq_X12_valueOf_279 rfl ⟨⟨x64, rfl, cw_topL_ok _⟩, ⟨Th60, pp_fr0 (by decide +kernel) hP Fh60⟩, Fh60, fun y hy hy0 => ⟨fun t ht => absurd ht List.not_mem_nil, fun t ht => absurd ht List.not_mem_nil⟩⟩
          | 6, _, c16 =>
            refine ⟨rfl, ?_⟩
            show cw_X _ _ _ 259 _ _ _
            refine ex_al oq_X12_valueOf_259 gL14_0 ?_
            refine ex_gf oq_X12_valueOf_260 hT (k := 111) (d := 12) rfl rfl (fr_knot hT) ?_
            refine ex_il oq_X12_valueOf_263 gL14_1 ?_
            refine ex_ia1 oq_X12_valueOf_264 hT (k := 125) (d := 64) (j := k.toInt.toNat) rfl rfl (by omega) (by omega) (fun x65 hx65 lx65 ux65 => ?_)
            refine ex_ll oq_X12_valueOf_265 gL14_2 ?_
            refine ex_llw oq_X12_valueOf_266 gL14_4 ?_
            have Ph : cw_PP G h := pp_fr0 (by decide +kernel) hP Fh
            refine ex_cs oq_X12_valueOf_268 (by decide) (as := [cv_i x65, cv_l x7, cv_l x13]) (stk := []) rfl rfl rfl ⟨rfl, rfl⟩ (cw_HX hcm rfl (cw_Xok_no2 hX) ⟨hT, Ph⟩ ⟨⟨_, rfl, cw_top_ok _⟩, ⟨_, rfl, cw_topL_ok _⟩, ⟨_, rfl, cw_topL_ok _⟩, trivial⟩ (fun t ht => absurd ht List.not_mem_nil)) (fun ox67 hox67 => ?_)
            obtain ⟨x67, h66, rfl, rx67, Th66, Ph66, Ch66, tx67⟩ := po_int hox67 rfl
            have lx67 := rx67.1
            have ux67 := rx67.2.1
            try dsimp only at lx67 ux67
            show cw_X _ _ _ _ _ [cv_i x67] h66
            have Fh66 : cw_Fr cw_Ds cw_sh kk_X12_valueOf.2.2.2.2.2.1 h h66 := cw_Fr_tr Fh (cw_Fr_mono (by decide +kernel) Ch66)
            have eh66_48 : ri_at h66 111 48 = ri_at h 111 48 := ri_frf Ch66 (d := 12) rfl rfl (by decide +kernel)
            refine ex_if0 oq_X12_valueOf_271 (t := 278) rfl rfl (fun (c68 : x67.toInt = 0) => ?_) (fun (c68 : ¬ (x67.toInt = 0)) => ?_)
            · refine ex_lc oq_X12_valueOf_278 (m := 0) (by decide) (fun x69 hx69 => ?_)
              exact ex_retl oq_X12_valueOf_279 rfl ⟨⟨x69, rfl, cw_topL_ok _⟩, ⟨Th66, pp_fr0 (by decide +kernel) hP Fh66⟩, Fh66, fun y hy hy0 => ⟨fun t ht => absurd ht List.not_mem_nil, fun t ht => absurd ht List.not_mem_nil⟩⟩
            · refine ex_lc oq_X12_valueOf_274 (m := 1) (by decide) (fun x70 hx70 => ?_)
              refine ex_go oq_X12_valueOf_275 (t := 279) rfl rfl ?_
              exact ex_retl oq_X12_valueOf_279 rfl ⟨⟨x70, rfl, cw_topL_ok _⟩, ⟨Th66, pp_fr0 (by decide +kernel) hP Fh66⟩, Fh66, fun y hy hy0 => ⟨fun t ht => absurd ht List.not_mem_nil, fun t ht => absurd ht List.not_mem_nil⟩⟩
          | 7, _, c16 =>
            refine ⟨rfl, ?_⟩
            show cw_X _ _ _ 259 _ _ _
            refine ex_al oq_X12_valueOf_259 gL14_0 ?_
            refine ex_gf oq_X12_valueOf_260 hT (k := 111) (d := 12) rfl rfl (fr_knot hT) ?_
            refine ex_il oq_X12_valueOf_263 gL14_1 ?_
            refine ex_ia1 oq_X12_valueOf_264 hT (k := 125) (d := 64) (j := k.toInt.toNat) rfl rfl (by omega) (by omega) (fun x71 hx71 lx71 ux71 => ?_)
            refine ex_ll oq_X12_valueOf_265 gL14_2 ?_
            refine ex_llw oq_X12_valueOf_266 gL14_4 ?_
            have Ph : cw_PP G h := pp_fr0 (by decide +kernel) hP Fh
            refine ex_cs oq_X12_valueOf_268 (by decide) (as := [cv_i x71, cv_l x7, cv_l x13]) (stk := []) rfl rfl rfl ⟨rfl, rfl⟩ (cw_HX hcm rfl (cw_Xok_no2 hX) ⟨hT, Ph⟩ ⟨⟨_, rfl, cw_top_ok _⟩, ⟨_, rfl, cw_topL_ok _⟩, ⟨_, rfl, cw_topL_ok _⟩, trivial⟩ (fun t ht => absurd ht List.not_mem_nil)) (fun ox73 hox73 => ?_)
            obtain ⟨x73, h72, rfl, rx73, Th72, Ph72, Ch72, tx73⟩ := po_int hox73 rfl
            have lx73 := rx73.1
            have ux73 := rx73.2.1
            try dsimp only at lx73 ux73
            show cw_X _ _ _ _ _ [cv_i x73] h72
            have Fh72 : cw_Fr cw_Ds cw_sh kk_X12_valueOf.2.2.2.2.2.1 h h72 := cw_Fr_tr Fh (cw_Fr_mono (by decide +kernel) Ch72)
            have eh72_48 : ri_at h72 111 48 = ri_at h 111 48 := ri_frf Ch72 (d := 12) rfl rfl (by decide +kernel)
            refine ex_if0 oq_X12_valueOf_271 (t := 278) rfl rfl (fun (c74 : x73.toInt = 0) => ?_) (fun (c74 : ¬ (x73.toInt = 0)) => ?_)
            · refine ex_lc oq_X12_valueOf_278 (m := 0) (by decide) (fun x75 hx75 => ?_)
              exact ex_retl oq_X12_valueOf_279 rfl ⟨⟨x75, rfl, cw_topL_ok _⟩, ⟨Th72, pp_fr0 (by decide +kernel) hP Fh72⟩, Fh72, fun y hy hy0 => ⟨fun t ht => absurd ht List.not_mem_nil, fun t ht => absurd ht List.not_mem_nil⟩⟩
            · refine ex_lc oq_X12_valueOf_274 (m := 1) (by decide) (fun x76 hx76 => ?_)
              refine ex_go oq_X12_valueOf_275 (t := 279) rfl rfl ?_
              exact ex_retl oq_X12_valueOf_279 rfl ⟨⟨x76, rfl, cw_topL_ok _⟩, ⟨Th72, pp_fr0 (by decide +kernel) hP Fh72⟩, Fh72, fun y hy hy0 => ⟨fun t ht => absurd ht List.not_mem_nil, fun t ht => absurd ht List.not_mem_nil⟩⟩
          | 8, _, c16 =>
            refine ⟨rfl, ?_⟩
            show cw_X _ _ _ 194 _ _ _
            refine ex_al oq_X12_valueOf_194 gL14_0 ?_
            refine ex_ll oq_X12_valueOf_195 gL14_2 ?_
            refine ex_llw oq_X12_valueOf_196 gL14_4 ?_
            refine ex_ladd oq_X12_valueOf_198 (fun x77 => ?_)
            have Ph : cw_PP G h := pp_fr0 (by decide +kernel) hP Fh
            refine ex_cv oq_X12_valueOf_199 (by decide) hT (k := 111) (d := 12) (as := [cv_l x77]) (stk := []) rfl rfl rfl rfl rfl rfl ⟨rfl, rfl⟩ (cw_HX hbd rfl (cw_Xok_no2 hX) ⟨hT, Ph⟩ ⟨.inl ⟨by decide, 111, rfl, rfl⟩, ⟨_, rfl, cw_topL_ok _⟩, trivial⟩ (fun t ht => absurd ht List.not_mem_nil)) (fun ox79 hox79 => ?_)
            obtain ⟨x79, h78, rfl, rx79, Th78, Ph78, Ch78⟩ := po_lng hox79 rfl
            show cw_X _ _ _ _ _ [cv_l x79] h78
            have Fh78 : cw_Fr cw_Ds cw_sh kk_X12_valueOf.2.2.2.2.2.1 h h78 := cw_Fr_tr Fh (cw_Fr_mono (by decide +kernel) Ch78)
            exact ex_retl oq_X12_valueOf_202 rfl ⟨⟨x79, rfl, cw_topL_ok _⟩, ⟨Th78, pp_fr0 (by decide +kernel) hP Fh78⟩, Fh78, fun y hy hy0 => ⟨fun t ht => absurd ht List.not_mem_nil, fun t ht => absurd ht List.not_mem_nil⟩⟩
          | 9, _, c16 =>
            refine ⟨rfl, ?_⟩
            show cw_X _ _ _ 203 _ _ _
            refine ex_al oq_X12_valueOf_203 gL14_0 ?_
            refine ex_ll oq_X12_valueOf_204 gL14_2 ?_
            refine ex_llw oq_X12_valueOf_205 gL14_4 ?_
            refine ex_lsub oq_X12_valueOf_207 (fun x80 => ?_)
            have Ph : cw_PP G h := pp_fr0 (by decide +kernel) hP Fh
            refine ex_cv oq_X12_valueOf_208 (by decide) hT (k := 111) (d := 12) (as := [cv_l x80]) (stk := []) rfl rfl rfl rfl rfl rfl ⟨rfl, rfl⟩ (cw_HX hbd rfl (cw_Xok_no2 hX) ⟨hT, Ph⟩ ⟨.inl ⟨by decide, 111, rfl, rfl⟩, ⟨_, rfl, cw_topL_ok _⟩, trivial⟩ (fun t ht => absurd ht List.not_mem_nil)) (fun ox82 hox82 => ?_)
            obtain ⟨x82, h81, rfl, rx82, Th81, Ph81, Ch81⟩ := po_lng hox82 rfl
            show cw_X _ _ _ _ _ [cv_l x82] h81
            have Fh81 : cw_Fr cw_Ds cw_sh kk_X12_valueOf.2.2.2.2.2.1 h h81 := cw_Fr_tr Fh (cw_Fr_mono (by decide +kernel) Ch81)
            exact ex_retl oq_X12_valueOf_211 rfl ⟨⟨x82, rfl, cw_topL_ok _⟩, ⟨Th81, pp_fr0 (by decide +kernel) hP Fh81⟩, Fh81, fun y hy hy0 => ⟨fun t ht => absurd ht List.not_mem_nil, fun t ht => absurd ht List.not_mem_nil⟩⟩
          | 10, _, c16 =>
            refine ⟨rfl, ?_⟩
            show cw_X _ _ _ 212 _ _ _
            refine ex_al oq_X12_valueOf_212 gL14_0 ?_
            refine ex_ll oq_X12_valueOf_213 gL14_2 ?_
            refine ex_llw oq_X12_valueOf_214 gL14_4 ?_
            have Ph : cw_PP G h := pp_fr0 (by decide +kernel) hP Fh
            refine ex_cv oq_X12_valueOf_216 (by decide) hT (k := 111) (d := 12) (as := [cv_l x7, cv_l x13]) (stk := []) rfl rfl rfl rfl rfl rfl ⟨rfl, rfl⟩ (cw_HX htm rfl (cw_Xok_no2 hX) ⟨hT, Ph⟩ ⟨.inl ⟨by decide, 111, rfl, rfl⟩, ⟨_, rfl, cw_topL_ok _⟩, ⟨_, rfl, cw_topL_ok _⟩, trivial⟩ (fun t ht => absurd ht List.not_mem_nil)) (fun ox84 hox84 => ?_)
            obtain ⟨x84, h83, rfl, rx84, Th83, Ph83, Ch83⟩ := po_lng hox84 rfl
            show cw_X _ _ _ _ _ [cv_l x84] h83
            have Fh83 : cw_Fr cw_Ds cw_sh kk_X12_valueOf.2.2.2.2.2.1 h h83 := cw_Fr_tr Fh (cw_Fr_mono (by decide +kernel) Ch83)
            exact ex_retl oq_X12_valueOf_219 rfl ⟨⟨x84, rfl, cw_topL_ok _⟩, ⟨Th83, pp_fr0 (by decide +kernel) hP Fh83⟩, Fh83, fun y hy hy0 => ⟨fun t ht => absurd ht List.not_mem_nil, fun t ht => absurd ht List.not_mem_nil⟩⟩
          | 11, _, c16 =>
            refine ⟨rfl, ?_⟩
            show cw_X _ _ _ 220 _ _ _
            refine ex_al oq_X12_valueOf_220 gL14_0 ?_
            refine ex_al oq_X12_valueOf_221 gL14_0 ?_
            obtain ⟨x85, ax85, rx85, lx85, ux85⟩ := fi_isError hT
            refine ex_gf oq_X12_valueOf_222 hT (k := 111) (d := 12) rfl rfl ax85 ?_
            refine ex_if0 oq_X12_valueOf_225 (t := 235) rfl rfl (fun (c86 : ¬ x85.toInt = 0) => ?_) (fun (c86 : ¬ (¬ x85.toInt = 0)) => ?_)
            · refine ex_ic oq_X12_valueOf_235 (m := 1) (by decide) (fun x87 hx87 => ?_)
              refine ex_go oq_X12_valueOf_236 (t := 240) rfl rfl ?_
              refine ex_pfb oq_X12_valueOf_240 hT (k := 111) (d := 12) rfl rfl rfl (by omega) (by omega) (fun h88 Th88 wh88 => ?_)
              have Fh88 : cw_Fr cw_Ds cw_sh kk_X12_valueOf.2.2.2.2.2.1 h h88 := cw_Fr_tr Fh (cw_Fr_wrf wh88 (k := 111) (d := 12) rfl rfl (by decide +kernel))
              have eh88_48 : ri_at h88 111 48 = x87.toInt := ri_self wh88
              refine ex_al oq_X12_valueOf_243 gL14_0 ?_
              obtain ⟨x89, ax89, rx89, lx89, ux89⟩ := fi_isError Th88
              refine ex_gf oq_X12_valueOf_244 Th88 (k := 111) (d := 12) rfl rfl ax89 ?_
              refine ex_if0 oq_X12_valueOf_247 (t := 254) rfl rfl (fun (c90 : x89.toInt = 0) => ?_) (fun (c90 : ¬ (x89.toInt = 0)) => ?_)
              · refine ex_ll oq_X12_valueOf_254 gL14_2 ?_
                refine ex_llw oq_X12_valueOf_255 gL14_4 ?_
                refine ex_ldiv oq_X12_valueOf_257 (by skip; first | (exact cw_lcmp0 (by assumption) (by assumption) (by assumption)) | omega) (fun x91 => ?_)
                exact ex_retl oq_X12_valueOf_258 rfl ⟨⟨x91, rfl, cw_topL_ok _⟩, ⟨Th88, pp_fr0 (by decide +kernel) hP Fh88⟩, Fh88, fun y hy hy0 => ⟨fun t ht => absurd ht List.not_mem_nil, fun t ht => absurd ht List.not_mem_nil⟩⟩
              · refine ex_lc oq_X12_valueOf_250 (m := 0) (by decide) (fun x92 hx92 => ?_)
                refine ex_go oq_X12_valueOf_251 (t := 258) rfl rfl ?_
                exact ex_retl oq_X12_valueOf_258 rfl ⟨⟨x92, rfl, cw_topL_ok _⟩, ⟨Th88, pp_fr0 (by decide +kernel) hP Fh88⟩, Fh88, fun y hy hy0 => ⟨fun t ht => absurd ht List.not_mem_nil, fun t ht => absurd ht List.not_mem_nil⟩⟩
            · refine ex_llw oq_X12_valueOf_228 gL14_4 ?_
              refine ex_lc oq_X12_valueOf_230 (m := 0) (by decide) (fun x93 hx93 => ?_)
              refine ex_lcmp oq_X12_valueOf_231 (fun x94 hx94 => ?_)
              refine ex_if0 oq_X12_valueOf_232 (t := 239) rfl rfl (fun (c95 : ¬ x94.toInt = 0) => ?_) (fun (c95 : ¬ (¬ x94.toInt = 0)) => ?_)
              · refine ex_ic oq_X12_valueOf_239 (m := 0) (by decide) (fun x96 hx96 => ?_)
                refine ex_pfb oq_X12_valueOf_240 hT (k := 111) (d := 12) rfl rfl rfl (by omega) (by omega) (fun h97 Th97 wh97 => ?_)
                have Fh97 : cw_Fr cw_Ds cw_sh kk_X12_valueOf.2.2.2.2.2.1 h h97 := cw_Fr_tr Fh (cw_Fr_wrf wh97 (k := 111) (d := 12) rfl rfl (by decide +kernel))
                have eh97_48 : ri_at h97 111 48 = x96.toInt := ri_self wh97
                refine ex_al oq_X12_valueOf_243 gL14_0 ?_
                obtain ⟨x98, ax98, rx98, lx98, ux98⟩ := fi_isError Th97
                refine ex_gf oq_X12_valueOf_244 Th97 (k := 111) (d := 12) rfl rfl ax98 ?_
                refine ex_if0 oq_X12_valueOf_247 (t := 254) rfl rfl (fun (c99 : x98.toInt = 0) => ?_) (fun (c99 : ¬ (x98.toInt = 0)) => ?_)
                · refine ex_ll oq_X12_valueOf_254 gL14_2 ?_
                  refine ex_llw oq_X12_valueOf_255 gL14_4 ?_
                  refine ex_ldiv oq_X12_valueOf_257 (by skip; first | (exact cw_lcmp0 (by assumption) (by assumption) (by assumption)) | omega) (fun x100 => ?_)
                  exact ex_retl oq_X12_valueOf_258 rfl ⟨⟨x100, rfl, cw_topL_ok _⟩, ⟨Th97, pp_fr0 (by decide +kernel) hP Fh97⟩, Fh97, fun y hy hy0 => ⟨fun t ht => absurd ht List.not_mem_nil, fun t ht => absurd ht List.not_mem_nil⟩⟩
                · refine ex_lc oq_X12_valueOf_250 (m := 0) (by decide) (fun x101 hx101 => ?_)
                  refine ex_go oq_X12_valueOf_251 (t := 258) rfl rfl ?_
                  exact ex_retl oq_X12_valueOf_258 rfl ⟨⟨x101, rfl, cw_topL_ok _⟩, ⟨Th97, pp_fr0 (by decide +kernel) hP Fh97⟩, Fh97, fun y hy hy0 => ⟨fun t ht => absurd ht List.not_mem_nil, fun t ht => absurd ht List.not_mem_nil⟩⟩
              · refine ex_ic oq_X12_valueOf_235 (m := 1) (by decide) (fun x102 hx102 => ?_)
                refine ex_go oq_X12_valueOf_236 (t := 240) rfl rfl ?_
                refine ex_pfb oq_X12_valueOf_240 hT (k := 111) (d := 12) rfl rfl rfl (by omega) (by omega) (fun h103 Th103 wh103 => ?_)
                have Fh103 : cw_Fr cw_Ds cw_sh kk_X12_valueOf.2.2.2.2.2.1 h h103 := cw_Fr_tr Fh (cw_Fr_wrf wh103 (k := 111) (d := 12) rfl rfl (by decide +kernel))
                have eh103_48 : ri_at h103 111 48 = x102.toInt := ri_self wh103
                refine ex_al oq_X12_valueOf_243 gL14_0 ?_
                obtain ⟨x104, ax104, rx104, lx104, ux104⟩ := fi_isError Th103
                refine ex_gf oq_X12_valueOf_244 Th103 (k := 111) (d := 12) rfl rfl ax104 ?_
                refine ex_if0 oq_X12_valueOf_247 (t := 254) rfl rfl (fun (c105 : x104.toInt = 0) => ?_) (fun (c105 : ¬ (x104.toInt = 0)) => ?_)
                · refine ex_ll oq_X12_valueOf_254 gL14_2 ?_
                  refine ex_llw oq_X12_valueOf_255 gL14_4 ?_
                  refine ex_ldiv oq_X12_valueOf_257 (by skip; first | (exact cw_lcmp0 (by assumption) (by assumption) (by assumption)) | omega) (fun x106 => ?_)
                  exact ex_retl oq_X12_valueOf_258 rfl ⟨⟨x106, rfl, cw_topL_ok _⟩, ⟨Th103, pp_fr0 (by decide +kernel) hP Fh103⟩, Fh103, fun y hy hy0 => ⟨fun t ht => absurd ht List.not_mem_nil, fun t ht => absurd ht List.not_mem_nil⟩⟩
                · refine ex_lc oq_X12_valueOf_250 (m := 0) (by decide) (fun x107 hx107 => ?_)
                  refine ex_go oq_X12_valueOf_251 (t := 258) rfl rfl ?_
                  exact ex_retl oq_X12_valueOf_258 rfl ⟨⟨x107, rfl, cw_topL_ok _⟩, ⟨Th103, pp_fr0 (by decide +kernel) hP Fh103⟩, Fh103, fun y hy hy0 => ⟨fun t ht => absurd ht List.not_mem_nil, fun t ht => absurd ht List.not_mem_nil⟩⟩
          | i + 12, hi, _ => exact absurd hi (by show ¬ i + 12 < 12; omega)
      · refine ex_ll oq_X12_valueOf_61 gL8_2 ?_
        refine ex_lc oq_X12_valueOf_62 (m := 0) (by decide) (fun x108 hx108 => ?_)
        refine ex_lcmp oq_X12_valueOf_63 (fun x109 hx109 => ?_)
        refine ex_if0 oq_X12_valueOf_64 (t := 71) rfl rfl (fun (c110 : ¬ x109.toInt = 0) => ?_) (fun (c110 : ¬ (¬ x109.toInt = 0)) => ?_)
        · refine ex_lc oq_X12_valueOf_71 (m := 0) (by decide) (fun x111 hx111 => ?_)
          exact ex_retl oq_X12_valueOf_72 rfl ⟨⟨x111, rfl, cw_topL_ok _⟩, ⟨hT, pp_fr0 (by decide +kernel) hP Fh⟩, Fh, fun y hy hy0 => ⟨fun t ht => absurd ht List.not_mem_nil, fun t ht => absurd ht List.not_mem_nil⟩⟩
        · refine ex_lc oq_X12_valueOf_67 (m := 1) (by decide) (fun x112 hx112 => ?_)
          refine ex_go oq_X12_valueOf_68 (t := 72) rfl rfl ?_
          exact ex_retl oq_X12_valueOf_72 rfl ⟨⟨x112, rfl, cw_topL_ok _⟩, ⟨hT, pp_fr0 (by decide +kernel) hP Fh⟩, Fh, fun y hy hy0 => ⟨fun t ht => absurd ht List.not_mem_nil, fun t ht => absurd ht List.not_mem_nil⟩⟩
    · refine ex_al oq_X12_valueOf_27 rfl ?_
      refine ex_gf oq_X12_valueOf_28 hT (k := 111) (d := 12) rfl rfl (fr_names hT) ?_
      refine ex_al oq_X12_valueOf_31 rfl ?_
      refine ex_gf oq_X12_valueOf_32 hT (k := 111) (d := 12) rfl rfl (fr_part hT) ?_
      refine ex_il oq_X12_valueOf_35 rfl ?_
      refine ex_ia1 oq_X12_valueOf_36 hT (k := 126) (d := 65) (j := k.toInt.toNat) rfl rfl (by omega) (by omega) (fun x113 hx113 lx113 ux113 => ?_)
      refine ex_la oq_X12_valueOf_37 hT (k := 132) (d := 71) (j := x113.toInt.toNat) rfl rfl (by omega) (by omega) (fun x114 hx114 => ?_)
      exact ex_retl oq_X12_valueOf_38 rfl ⟨⟨x114, rfl, cw_topL_ok _⟩, ⟨hT, pp_fr0 (by decide +kernel) hP Fh⟩, Fh, fun y hy hy0 => ⟨fun t ht => absurd ht List.not_mem_nil, fun t ht => absurd ht List.not_mem_nil⟩⟩
  · refine ex_al oq_X12_valueOf_9 rfl ?_
    refine ex_gf oq_X12_valueOf_10 hT (k := 111) (d := 12) rfl rfl (fr_part hT) ?_
    refine ex_il oq_X12_valueOf_13 rfl ?_
    refine ex_ia1 oq_X12_valueOf_14 hT (k := 126) (d := 65) (j := k.toInt.toNat) rfl rfl (by omega) (by omega) (fun x115 hx115 lx115 ux115 => ?_)
    refine ex_i2l oq_X12_valueOf_15 (fun x116 hx116 => ?_)
    exact ex_retl oq_X12_valueOf_16 rfl ⟨⟨x116, rfl, cw_topL_ok _⟩, ⟨hT, pp_fr0 (by decide +kernel) hP Fh⟩, Fh, fun y hy hy0 => ⟨fun t ht => absurd ht List.not_mem_nil, fun t ht => absurd ht List.not_mem_nil⟩⟩
theorem oq_X12_lawOf_0 : cw_ho 213 0 (.aload_n 0) 1 0 0 0 := rfl
theorem oq_X12_lawOf_1 : cw_ho 213 1 (.aload_n 0) 1 0 0 0 := rfl
theorem oq_X12_lawOf_2 : cw_ho 213 2 (.getfield 29) 3 12 24 4 := rfl
theorem oq_X12_lawOf_5 : cw_ho 213 5 (.iload_n 1) 1 0 0 0 := rfl
theorem oq_X12_lawOf_6 : cw_ho 213 6 (.baload) 1 0 0 0 := rfl
theorem oq_X12_lawOf_7 : cw_ho 213 7 (.ifCond .ne 7) 3 0 0 0 := rfl
theorem oq_X12_lawOf_10 : cw_ho 213 10 (.iconst 1) 1 0 0 0 := rfl
theorem oq_X12_lawOf_11 : cw_ho 213 11 (.goto 4) 3 0 0 0 := rfl
theorem oq_X12_lawOf_14 : cw_ho 213 14 (.iconst 0) 1 0 0 0 := rfl
theorem oq_X12_lawOf_15 : cw_ho 213 15 (.putfield 361) 3 12 48 2 := rfl
theorem oq_X12_lawOf_18 : cw_ho 213 18 (.aload_n 0) 1 0 0 0 := rfl
theorem oq_X12_lawOf_19 : cw_ho 213 19 (.getfield 361) 3 12 48 2 := rfl
theorem oq_X12_lawOf_22 : cw_ho 213 22 (.ifCond .eq 5) 3 0 0 0 := rfl
theorem oq_X12_lawOf_25 : cw_ho 213 25 (.lconst 0) 1 0 0 0 := rfl
theorem oq_X12_lawOf_26 : cw_ho 213 26 (.lreturn) 1 0 0 0 := rfl
theorem oq_X12_lawOf_27 : cw_ho 213 27 (.aload_n 0) 1 0 0 0 := rfl
theorem oq_X12_lawOf_28 : cw_ho 213 28 (.getfield 23) 3 12 22 4 := rfl
theorem oq_X12_lawOf_31 : cw_ho 213 31 (.iload_n 1) 1 0 0 0 := rfl
theorem oq_X12_lawOf_32 : cw_ho 213 32 (.iaload) 1 0 0 0 := rfl
theorem oq_X12_lawOf_33 : cw_ho 213 33 (.istore_n 2) 1 0 0 0 := rfl
theorem oq_X12_lawOf_34 : cw_ho 213 34 (.iload_n 2) 1 0 0 0 := rfl
theorem oq_X12_lawOf_35 : cw_ho 213 35 (.aload_n 0) 1 0 0 0 := rfl
theorem oq_X12_lawOf_36 : cw_ho 213 36 (.getfield 26) 3 12 23 4 := rfl
theorem oq_X12_lawOf_39 : cw_ho 213 39 (.iload_n 1) 1 0 0 0 := rfl
theorem oq_X12_lawOf_40 : cw_ho 213 40 (.iaload) 1 0 0 0 := rfl
theorem oq_X12_lawOf_41 : cw_ho 213 41 (.if_icmp .ge 20) 3 0 0 0 := rfl
theorem oq_X12_lawOf_44 : cw_ho 213 44 (.aload_n 0) 1 0 0 0 := rfl
theorem oq_X12_lawOf_45 : cw_ho 213 45 (.getfield 79) 3 12 47 4 := rfl
theorem oq_X12_lawOf_48 : cw_ho 213 48 (.iload_n 2) 1 0 0 0 := rfl
theorem oq_X12_lawOf_49 : cw_ho 213 49 (.aload_n 0) 1 0 0 0 := rfl
theorem oq_X12_lawOf_50 : cw_ho 213 50 (.iload_n 2) 1 0 0 0 := rfl
theorem oq_X12_lawOf_51 : cw_ho 213 51 (.invokevirtual 389) 3 211 1 12 := rfl
theorem oq_X12_lawOf_54 : cw_ho 213 54 (.lastore) 1 0 0 0 := rfl
theorem oq_X12_lawOf_55 : cw_ho 213 55 (.iinc 2 1) 3 0 0 0 := rfl
theorem oq_X12_lawOf_58 : cw_ho 213 58 (.goto (-24)) 3 0 0 0 := rfl
theorem oq_X12_lawOf_61 : cw_ho 213 61 (.aload_n 0) 1 0 0 0 := rfl
theorem oq_X12_lawOf_62 : cw_ho 213 62 (.getfield 361) 3 12 48 2 := rfl
theorem oq_X12_lawOf_65 : cw_ho 213 65 (.ifCond .eq 7) 3 0 0 0 := rfl
theorem oq_X12_lawOf_68 : cw_ho 213 68 (.lconst 0) 1 0 0 0 := rfl
theorem oq_X12_lawOf_69 : cw_ho 213 69 (.goto 16) 3 0 0 0 := rfl
theorem oq_X12_lawOf_72 : cw_ho 213 72 (.aload_n 0) 1 0 0 0 := rfl
theorem oq_X12_lawOf_73 : cw_ho 213 73 (.getfield 79) 3 12 47 4 := rfl
theorem oq_X12_lawOf_76 : cw_ho 213 76 (.aload_n 0) 1 0 0 0 := rfl
theorem oq_X12_lawOf_77 : cw_ho 213 77 (.getfield 26) 3 12 23 4 := rfl
theorem oq_X12_lawOf_80 : cw_ho 213 80 (.iload_n 1) 1 0 0 0 := rfl
theorem oq_X12_lawOf_81 : cw_ho 213 81 (.iaload) 1 0 0 0 := rfl
theorem oq_X12_lawOf_82 : cw_ho 213 82 (.iconst 1) 1 0 0 0 := rfl
theorem oq_X12_lawOf_83 : cw_ho 213 83 (.isub) 1 0 0 0 := rfl
theorem oq_X12_lawOf_84 : cw_ho 213 84 (.laload) 1 0 0 0 := rfl
theorem oq_X12_lawOf_85 : cw_ho 213 85 (.lreturn) 1 0 0 0 := rfl
theorem lo_34 {h0 : cv_H} {X : cv_X} {Q : cv_O → Prop} (hvo : cw_Holds fk_all mt_all cw_Ds cw_sh G (cw_PP G) kk_X12_valueOf) (hX : cw_Xok X) (hP0 : cw_PP G h0) (l : Int32) (l0 : 0 ≤ l.toInt) (l1 : l.toInt ≤ 3) (hlast : 1 ≤ ri_at h0 116 l.toInt.toNat) (hfin : ∀ (x : Int64) h, cw_T G h → cw_Fr cw_Ds cw_sh kk_X12_lawOf.2.2.2.2.2.1 h0 h → Q (some (cv_l x), h)) : ∀ (N : Nat) (k : Int32) (h : cv_H), cw_T G h → cw_Fr cw_Ds cw_sh kk_X12_lawOf.2.2.2.2.2.1 h0 h → ∀ L : cv_L, cv_get L 0 = some (cv_r 111) → cv_get L 1 = some (cv_i l) → cv_get L 2 = some (cv_i k) → 0 ≤ k.toInt → (64 - k.toInt).toNat ≤ N → cw_X X 213 Q 34 L [] h := by
  intro N
  induction N with
  | zero =>
    intro k h Th Fh L q0 q1 q2 k0 hN
    have e116 : ri_at h 116 l.toInt.toNat = ri_at h0 116 l.toInt.toNat := ri_frr Fh (d := 55) rfl rfl (by decide +kernel)
    refine ex_il oq_X12_lawOf_34 q2 ?_
    refine ex_al oq_X12_lawOf_35 q0 ?_
    refine ex_gf oq_X12_lawOf_36 Th (k := 111) (d := 12) rfl rfl (fr_lawLast Th) ?_
    refine ex_il oq_X12_lawOf_39 q1 ?_
    refine ex_ia1 oq_X12_lawOf_40 Th (k := 116) (d := 55) (j := l.toInt.toNat) rfl rfl (by omega) (by omega) (fun x1 hx1 lx1 ux1 => ?_)
    refine ex_if oq_X12_lawOf_41 (t := 61) rfl rfl (fun (c2 : x1.toInt ≤ k.toInt) => ?_) (fun (c2 : ¬ (x1.toInt ≤ k.toInt)) => ?_)
    · refine ex_al oq_X12_lawOf_61 q0 ?_
      obtain ⟨x3, ax3, rx3, lx3, ux3⟩ := fi_isError Th
      refine ex_gf oq_X12_lawOf_62 Th (k := 111) (d := 12) rfl rfl ax3 ?_
      refine ex_if0 oq_X12_lawOf_65 (t := 72) rfl rfl (fun (c4 : x3.toInt = 0) => ?_) (fun (c4 : ¬ (x3.toInt = 0)) => ?_)
      · refine ex_al oq_X12_lawOf_72 q0 ?_
        refine ex_gf oq_X12_lawOf_73 Th (k := 111) (d := 12) rfl rfl (fr_value Th) ?_
        refine ex_al oq_X12_lawOf_76 q0 ?_
        refine ex_gf oq_X12_lawOf_77 Th (k := 111) (d := 12) rfl rfl (fr_lawLast Th) ?_
        refine ex_il oq_X12_lawOf_80 q1 ?_
        refine ex_ia1 oq_X12_lawOf_81 Th (k := 116) (d := 55) (j := l.toInt.toNat) rfl rfl (by omega) (by omega) (fun x5 hx5 lx5 ux5 => ?_)
        refine ex_ic oq_X12_lawOf_82 (m := 1) (by decide) (fun x6 hx6 => ?_)
        refine ex_sub oq_X12_lawOf_83 (by omega) (fun x7 hx7 => ?_)
        refine ex_la oq_X12_lawOf_84 Th (k := 133) (d := 72) (j := x7.toInt.toNat) rfl rfl (by omega) (by omega) (fun x8 hx8 => ?_)
        exact ex_retl oq_X12_lawOf_85 rfl (hfin x8 _ Th Fh)
      · refine ex_lc oq_X12_lawOf_68 (m := 0) (by decide) (fun x9 hx9 => ?_)
        refine ex_go oq_X12_lawOf_69 (t := 85) rfl rfl ?_
        exact ex_retl oq_X12_lawOf_85 rfl (hfin x9 _ Th Fh)
    · refine ex_al oq_X12_lawOf_44 q0 ?_
      refine ex_gf oq_X12_lawOf_45 Th (k := 111) (d := 12) rfl rfl (fr_value Th) ?_
      refine ex_il oq_X12_lawOf_48 q2 ?_
      refine ex_al oq_X12_lawOf_49 q0 ?_
      refine ex_il oq_X12_lawOf_50 q2 ?_
      have Ph : cw_PP G h := pp_fr0 (by decide +kernel) hP0 Fh
      refine ex_cv oq_X12_lawOf_51 (by decide) Th (k := 111) (d := 12) (as := [cv_i k]) (stk := [cv_i k, cv_r 133]) rfl rfl rfl rfl rfl rfl ⟨rfl, rfl⟩ (cw_HX hvo rfl (cw_Xok_no2 hX) ⟨Th, Ph⟩ ⟨.inl ⟨by decide, 111, rfl, rfl⟩, ⟨_, rfl, by show (0 : Int) ≤ _; omega, by show _ ≤ (63 : Int); omega, cw_tg0⟩, trivial⟩ (fun t ht => absurd ht List.not_mem_nil)) (fun ox11 hox11 => ?_)
      obtain ⟨x11, h10, rfl, rx11, Th10, Ph10, Ch10⟩ := po_lng hox11 rfl
      show cw_X _ _ _ _ _ [cv_l x11, cv_i k, cv_r 133] h10
      have Fh10 : cw_Fr cw_Ds cw_sh kk_X12_lawOf.2.2.2.2.2.1 h0 h10 := cw_Fr_tr Fh (cw_Fr_mono (by decide +kernel) Ch10)
      have e116h10 : ri_at h10 116 l.toInt.toNat = ri_at h 116 l.toInt.toNat := ri_frr Ch10 (d := 55) rfl rfl (by decide +kernel)
      refine ex_lw oq_X12_lawOf_54 Th10 (k := 133) (d := 72) (j := k.toInt.toNat) rfl rfl (by omega) (by omega) (fun h12 Th12 wh12 => ?_)
      have Fh12 : cw_Fr cw_Ds cw_sh kk_X12_lawOf.2.2.2.2.2.1 h0 h12 := cw_Fr_tr Fh10 (cw_Fr_wrl wh12 (k := 133) (d := 72) rfl rfl (by decide +kernel))
      have eh12_r116 : ri_at h12 116 l.toInt.toNat = ri_at h10 116 l.toInt.toNat := ri_ne wh12 (.inl (by decide))
      refine ex_incA oq_X12_lawOf_55 (v := k) (m := 1) q2 (by decide) (by omega) (fun L14 x13 hx13 gL14_2 kL14 => ?_)
      have gL14_0 : cv_get L14 0 = some (cv_r 111) := kL14 0 _ (by decide) (fun q => absurd q (by decide)) q0
      have gL14_1 : cv_get L14 1 = some (cv_i l) := kL14 1 _ (by decide) (fun _ => rfl) q1
      refine ex_go oq_X12_lawOf_58 (t := 34) rfl rfl ?_
      exfalso; omega -- x13 h12 Th12 Fh12 L14 gL14_0 gL14_1 gL14_2 (by omega) (by omega)
  | succ N ih =>
    intro k h Th Fh L q0 q1 q2 k0 hN
    have e116 : ri_at h 116 l.toInt.toNat = ri_at h0 116 l.toInt.toNat := ri_frr Fh (d := 55) rfl rfl (by decide +kernel)
    refine ex_il oq_X12_lawOf_34 q2 ?_
    refine ex_al oq_X12_lawOf_35 q0 ?_
    refine ex_gf oq_X12_lawOf_36 Th (k := 111) (d := 12) rfl rfl (fr_lawLast Th) ?_
    refine ex_il oq_X12_lawOf_39 q1 ?_
    refine ex_ia1 oq_X12_lawOf_40 Th (k := 116) (d := 55) (j := l.toInt.toNat) rfl rfl (by omega) (by omega) (fun x1 hx1 lx1 ux1 => ?_)
    refine ex_if oq_X12_lawOf_41 (t := 61) rfl rfl (fun (c2 : x1.toInt ≤ k.toInt) => ?_) (fun (c2 : ¬ (x1.toInt ≤ k.toInt)) => ?_)
    · refine ex_al oq_X12_lawOf_61 q0 ?_
      obtain ⟨x3, ax3, rx3, lx3, ux3⟩ := fi_isError Th
      refine ex_gf oq_X12_lawOf_62 Th (k := 111) (d := 12) rfl rfl ax3 ?_
      refine ex_if0 oq_X12_lawOf_65 (t := 72) rfl rfl (fun (c4 : x3.toInt = 0) => ?_) (fun (c4 : ¬ (x3.toInt = 0)) => ?_)
      · refine ex_al oq_X12_lawOf_72 q0 ?_
        refine ex_gf oq_X12_lawOf_73 Th (k := 111) (d := 12) rfl rfl (fr_value Th) ?_
        refine ex_al oq_X12_lawOf_76 q0 ?_
        refine ex_gf oq_X12_lawOf_77 Th (k := 111) (d := 12) rfl rfl (fr_lawLast Th) ?_
        refine ex_il oq_X12_lawOf_80 q1 ?_
        refine ex_ia1 oq_X12_lawOf_81 Th (k := 116) (d := 55) (j := l.toInt.toNat) rfl rfl (by omega) (by omega) (fun x5 hx5 lx5 ux5 => ?_)
        refine ex_ic oq_X12_lawOf_82 (m := 1) (by decide) (fun x6 hx6 => ?_)
        refine ex_sub oq_X12_lawOf_83 (by omega) (fun x7 hx7 => ?_)
        refine ex_la oq_X12_lawOf_84 Th (k := 133) (d := 72) (j := x7.toInt.toNat) rfl rfl (by omega) (by omega) (fun x8 hx8 => ?_)
        exact ex_retl oq_X12_lawOf_85 rfl (hfin x8 _ Th Fh)
      · refine ex_lc oq_X12_lawOf_68 (m := 0) (by decide) (fun x9 hx9 => ?_)
        refine ex_go oq_X12_lawOf_69 (t := 85) rfl rfl ?_
        exact ex_retl oq_X12_lawOf_85 rfl (hfin x9 _ Th Fh)
    · refine ex_al oq_X12_lawOf_44 q0 ?_
      refine ex_gf oq_X12_lawOf_45 Th (k := 111) (d := 12) rfl rfl (fr_value Th) ?_
      refine ex_il oq_X12_lawOf_48 q2 ?_
      refine ex_al oq_X12_lawOf_49 q0 ?_
      refine ex_il oq_X12_lawOf_50 q2 ?_
      have Ph : cw_PP G h := pp_fr0 (by decide +kernel) hP0 Fh
      refine ex_cv oq_X12_lawOf_51 (by decide) Th (k := 111) (d := 12) (as := [cv_i k]) (stk := [cv_i k, cv_r 133]) rfl rfl rfl rfl rfl rfl ⟨rfl, rfl⟩ (cw_HX hvo rfl (cw_Xok_no2 hX) ⟨Th, Ph⟩ ⟨.inl ⟨by decide, 111, rfl, rfl⟩, ⟨_, rfl, by show (0 : Int) ≤ _; omega, by show _ ≤ (63 : Int); omega, cw_tg0⟩, trivial⟩ (fun t ht => absurd ht List.not_mem_nil)) (fun ox11 hox11 => ?_)
      obtain ⟨x11, h10, rfl, rx11, Th10, Ph10, Ch10⟩ := po_lng hox11 rfl
      show cw_X _ _ _ _ _ [cv_l x11, cv_i k, cv_r 133] h10
      have Fh10 : cw_Fr cw_Ds cw_sh kk_X12_lawOf.2.2.2.2.2.1 h0 h10 := cw_Fr_tr Fh (cw_Fr_mono (by decide +kernel) Ch10)
      have e116h10 : ri_at h10 116 l.toInt.toNat = ri_at h 116 l.toInt.toNat := ri_frr Ch10 (d := 55) rfl rfl (by decide +kernel)
      refine ex_lw oq_X12_lawOf_54 Th10 (k := 133) (d := 72) (j := k.toInt.toNat) rfl rfl (by omega) (by omega) (fun h12 Th12 wh12 => ?_)
      have Fh12 : cw_Fr cw_Ds cw_sh kk_X12_lawOf.2.2.2.2.2.1 h0 h12 := cw_Fr_tr Fh10 (cw_Fr_wrl wh12 (k := 133) (d := 72) rfl rfl (by decide +kernel))
      have eh12_r116 : ri_at h12 116 l.toInt.toNat = ri_at h10 116 l.toInt.toNat := ri_ne wh12 (.inl (by decide))
      refine ex_incA oq_X12_lawOf_55 (v := k) (m := 1) q2 (by decide) (by omega) (fun L14 x13 hx13 gL14_2 kL14 => ?_)
      have gL14_0 : cv_get L14 0 = some (cv_r 111) := kL14 0 _ (by decide) (fun q => absurd q (by decide)) q0
      have gL14_1 : cv_get L14 1 = some (cv_i l) := kL14 1 _ (by decide) (fun _ => rfl) q1
      refine ex_go oq_X12_lawOf_58 (t := 34) rfl rfl ?_
      exact ih x13 h12 Th12 Fh12 L14 gL14_0 gL14_1 gL14_2 (by omega) (by omega)
theorem hk_X12_lawOf (hvo : cw_Holds fk_all mt_all cw_Ds cw_sh G (cw_PP G) kk_X12_valueOf) : cw_Holds fk_all mt_all cw_Ds cw_sh G (cw_PP G) kk_X12_lawOf := by
  refine cw_XH fun X h av hX hT hP hg hfp => ?_
  match av, hg with
  | [v0, v1], ⟨h0, ⟨l, e1, rl⟩, _⟩ =>
  obtain rfl : v0 = cv_r 111 := by
    rcases h0 with ⟨-, k, rfl, hk⟩ | ⟨j, hj, -⟩
    · rw [ri_uniq (d := 12) (k := 111) (by decide +kernel) k hk]
    · omega
  subst e1
  have l0 := rl.1
  have l1 := rl.2.1
  dsimp only at l0 l1
  have hl4 := hP.2.2.2.1 l.toInt.toNat (by omega)
  have Fh : cw_Fr cw_Ds cw_sh kk_X12_lawOf.2.2.2.2.2.1 h h := cw_Fr_refl
  refine ex_al oq_X12_lawOf_0 rfl ?_
  refine ex_al oq_X12_lawOf_1 rfl ?_
  refine ex_gf oq_X12_lawOf_2 hT (k := 111) (d := 12) rfl rfl (fr_lawTold hT) ?_
  refine ex_il oq_X12_lawOf_5 rfl ?_
  refine ex_ba1 oq_X12_lawOf_6 hT (k := 117) (d := 56) (j := l.toInt.toNat) rfl rfl rfl (by omega) (by omega) (fun x501 hx501 lx501 ux501 => ?_)
  refine ex_if0 oq_X12_lawOf_7 (t := 14) rfl rfl (fun (c502 : ¬ x501.toInt = 0) => ?_) (fun (c502 : ¬ (¬ x501.toInt = 0)) => ?_)
  · refine ex_ic oq_X12_lawOf_14 (m := 0) (by decide) (fun x503 hx503 => ?_)
    refine ex_pfb oq_X12_lawOf_15 hT (k := 111) (d := 12) rfl rfl rfl (by omega) (by omega) (fun h504 Th504 wh504 => ?_)
    have Fh504 : cw_Fr cw_Ds cw_sh kk_X12_lawOf.2.2.2.2.2.1 h h504 := cw_Fr_tr Fh (cw_Fr_wrf wh504 (k := 111) (d := 12) rfl rfl (by decide +kernel))
    have eh504_48 : ri_at h504 111 48 = x503.toInt := ri_self wh504
    refine ex_al oq_X12_lawOf_18 rfl ?_
    obtain ⟨x505, ax505, rx505, lx505, ux505⟩ := fi_isError Th504
    refine ex_gf oq_X12_lawOf_19 Th504 (k := 111) (d := 12) rfl rfl ax505 ?_
    refine ex_if0 oq_X12_lawOf_22 (t := 27) rfl rfl (fun (c506 : x505.toInt = 0) => ?_) (fun (c506 : ¬ (x505.toInt = 0)) => ?_)
    · refine ex_al oq_X12_lawOf_27 rfl ?_
      refine ex_gf oq_X12_lawOf_28 Th504 (k := 111) (d := 12) rfl rfl (fr_lawFirst Th504) ?_
      refine ex_il oq_X12_lawOf_31 rfl ?_
      refine ex_ia1 oq_X12_lawOf_32 Th504 (k := 115) (d := 54) (j := l.toInt.toNat) rfl rfl (by omega) (by omega) (fun x507 hx507 lx507 ux507 => ?_)
      refine ex_isA oq_X12_lawOf_33 (fun L508 gL508_2 kL508 => ?_)
      have gL508_0 : cv_get L508 0 = some (cv_r 111) := kL508 0 _ (by decide) (fun q => absurd q (by decide)) rfl
      have gL508_1 : cv_get L508 1 = some (cv_i l) := kL508 1 _ (by decide) (fun _ => rfl) rfl
      exact lo_34 hvo hX hP l l0 l1 (by omega) (fun x h a1 a2 => ⟨⟨x, rfl, cw_topL_ok _⟩, ⟨a1, pp_fr0 (by decide +kernel) hP a2⟩, a2, fun y hy hy0 => ⟨fun t ht => absurd ht List.not_mem_nil, fun t ht => absurd ht List.not_mem_nil⟩⟩) _ x507 h504 Th504 Fh504 L508 gL508_0 gL508_1 gL508_2 (by omega) (Nat.le_refl _)
    · refine ex_lc oq_X12_lawOf_25 (m := 0) (by decide) (fun x509 hx509 => ?_)
      exact ex_retl oq_X12_lawOf_26 rfl ⟨⟨x509, rfl, cw_topL_ok _⟩, ⟨Th504, pp_fr0 (by decide +kernel) hP Fh504⟩, Fh504, fun y hy hy0 => ⟨fun t ht => absurd ht List.not_mem_nil, fun t ht => absurd ht List.not_mem_nil⟩⟩
  · refine ex_ic oq_X12_lawOf_10 (m := 1) (by decide) (fun x510 hx510 => ?_)
    refine ex_go oq_X12_lawOf_11 (t := 15) rfl rfl ?_
    refine ex_pfb oq_X12_lawOf_15 hT (k := 111) (d := 12) rfl rfl rfl (by omega) (by omega) (fun h511 Th511 wh511 => ?_)
    have Fh511 : cw_Fr cw_Ds cw_sh kk_X12_lawOf.2.2.2.2.2.1 h h511 := cw_Fr_tr Fh (cw_Fr_wrf wh511 (k := 111) (d := 12) rfl rfl (by decide +kernel))
    have eh511_48 : ri_at h511 111 48 = x510.toInt := ri_self wh511
    refine ex_al oq_X12_lawOf_18 rfl ?_
    obtain ⟨x512, ax512, rx512, lx512, ux512⟩ := fi_isError Th511
    refine ex_gf oq_X12_lawOf_19 Th511 (k := 111) (d := 12) rfl rfl ax512 ?_
    refine ex_if0 oq_X12_lawOf_22 (t := 27) rfl rfl (fun (c513 : x512.toInt = 0) => ?_) (fun (c513 : ¬ (x512.toInt = 0)) => ?_)
    · refine ex_al oq_X12_lawOf_27 rfl ?_
      refine ex_gf oq_X12_lawOf_28 Th511 (k := 111) (d := 12) rfl rfl (fr_lawFirst Th511) ?_
      refine ex_il oq_X12_lawOf_31 rfl ?_
      refine ex_ia1 oq_X12_lawOf_32 Th511 (k := 115) (d := 54) (j := l.toInt.toNat) rfl rfl (by omega) (by omega) (fun x514 hx514 lx514 ux514 => ?_)
      refine ex_isA oq_X12_lawOf_33 (fun L515 gL515_2 kL515 => ?_)
      have gL515_0 : cv_get L515 0 = some (cv_r 111) := kL515 0 _ (by decide) (fun q => absurd q (by decide)) rfl
      have gL515_1 : cv_get L515 1 = some (cv_i l) := kL515 1 _ (by decide) (fun _ => rfl) rfl
      exact lo_34 hvo hX hP l l0 l1 (by omega) (fun x h a1 a2 => ⟨⟨x, rfl, cw_topL_ok _⟩, ⟨a1, pp_fr0 (by decide +kernel) hP a2⟩, a2, fun y hy hy0 => ⟨fun t ht => absurd ht List.not_mem_nil, fun t ht => absurd ht List.not_mem_nil⟩⟩) _ x514 h511 Th511 Fh511 L515 gL515_0 gL515_1 gL515_2 (by omega) (Nat.le_refl _)
    · refine ex_lc oq_X12_lawOf_25 (m := 0) (by decide) (fun x516 hx516 => ?_)
      exact ex_retl oq_X12_lawOf_26 rfl ⟨⟨x516, rfl, cw_topL_ok _⟩, ⟨Th511, pp_fr0 (by decide +kernel) hP Fh511⟩, Fh511, fun y hy hy0 => ⟨fun t ht => absurd ht List.not_mem_nil, fun t ht => absurd ht List.not_mem_nil⟩⟩
end SPD
