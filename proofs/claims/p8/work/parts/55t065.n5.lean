/-! ===== a law's value: the class ===== -/
theorem zJ_0 {a b : Int} : zjn (zri 20000) a b = some (if a ≠ 0 ∨ b ≠ 0 then 1 else 0) := rfl
theorem zJ_1 {a b : Int} : zjn (zri 20001) a b = some (if a ≠ 0 ∧ b ≠ 0 then 1 else 0) := rfl
theorem zJ_3 {a b : Int} : zjn (zri 20003) a b = some (if a < b then 1 else 0) := rfl
theorem zJ_4 {a b : Int} : zjn (zri 20004) a b = some (if a ≤ b then 1 else 0) := rfl
theorem zJ_5 {a b : Int} : zjn (zri 20005) a b = some (if a = b then 1 else 0) := rfl
theorem zJ_6 {a b : Int} : zjn (zri 20006) a b = some (if a ≠ b then 1 else 0) := rfl
theorem zJ_7 {a b : Int} : zjn (zri 20007) a b = some (if b ≤ a then 1 else 0) := rfl
theorem zJ_8 {a b : Int} : zjn (zri 20008) a b = some (if b < a then 1 else 0) := rfl
theorem zJ_9 {a b : Int} : zjn (zri 20009) a b = zB12 (a + b) := rfl
theorem zJ_10 {a b : Int} : zjn (zri 20010) a b = zB12 (a - b) := rfl
theorem zJ_11 {a b : Int} : zjn (zri 20011) a b = zB12 (a * b) := rfl
theorem zJ_12 {a b : Int} : zjn (zri 20012) a b = if b = 0 then none else some (a.tdiv b) := rfl
section GN
variable {G : Int} {X : cv_X} {Q : cv_O → Prop} {h : cv_H}
theorem oq_X2_join_0 : cw_ho 36 0 (.iload_n 1) 1 0 0 0 := rfl
theorem oq_X2_join_1 : cw_ho 36 1 (.tableswitch 205 20000 20011 #[63, 82, 205, 101, 114, 127, 140, 153, 166, 179, 188, 197]) 63 0 0 0 := rfl
theorem oq_X2_join_64 : cw_ho 36 64 (.lload_n 2) 1 0 0 0 := rfl
theorem oq_X2_join_65 : cw_ho 36 65 (.lconst 0) 1 0 0 0 := rfl
theorem oq_X2_join_66 : cw_ho 36 66 (.lcmp) 1 0 0 0 := rfl
theorem oq_X2_join_67 : cw_ho 36 67 (.ifCond .ne 10) 3 0 0 0 := rfl
theorem oq_X2_join_70 : cw_ho 36 70 (.lload 4) 2 0 0 0 := rfl
theorem oq_X2_join_72 : cw_ho 36 72 (.lconst 0) 1 0 0 0 := rfl
theorem oq_X2_join_73 : cw_ho 36 73 (.lcmp) 1 0 0 0 := rfl
theorem oq_X2_join_74 : cw_ho 36 74 (.ifCond .eq 7) 3 0 0 0 := rfl
theorem oq_X2_join_77 : cw_ho 36 77 (.lconst 1) 1 0 0 0 := rfl
theorem oq_X2_join_78 : cw_ho 36 78 (.goto 4) 3 0 0 0 := rfl
theorem oq_X2_join_81 : cw_ho 36 81 (.lconst 0) 1 0 0 0 := rfl
theorem oq_X2_join_82 : cw_ho 36 82 (.lreturn) 1 0 0 0 := rfl
theorem oq_X2_join_83 : cw_ho 36 83 (.lload_n 2) 1 0 0 0 := rfl
theorem oq_X2_join_84 : cw_ho 36 84 (.lconst 0) 1 0 0 0 := rfl
theorem oq_X2_join_85 : cw_ho 36 85 (.lcmp) 1 0 0 0 := rfl
theorem oq_X2_join_86 : cw_ho 36 86 (.ifCond .eq 14) 3 0 0 0 := rfl
theorem oq_X2_join_89 : cw_ho 36 89 (.lload 4) 2 0 0 0 := rfl
theorem oq_X2_join_91 : cw_ho 36 91 (.lconst 0) 1 0 0 0 := rfl
theorem oq_X2_join_92 : cw_ho 36 92 (.lcmp) 1 0 0 0 := rfl
theorem oq_X2_join_93 : cw_ho 36 93 (.ifCond .eq 7) 3 0 0 0 := rfl
theorem oq_X2_join_96 : cw_ho 36 96 (.lconst 1) 1 0 0 0 := rfl
theorem oq_X2_join_97 : cw_ho 36 97 (.goto 4) 3 0 0 0 := rfl
theorem oq_X2_join_100 : cw_ho 36 100 (.lconst 0) 1 0 0 0 := rfl
theorem oq_X2_join_101 : cw_ho 36 101 (.lreturn) 1 0 0 0 := rfl
theorem oq_X2_join_102 : cw_ho 36 102 (.lload_n 2) 1 0 0 0 := rfl
theorem oq_X2_join_103 : cw_ho 36 103 (.lload 4) 2 0 0 0 := rfl
theorem oq_X2_join_105 : cw_ho 36 105 (.lcmp) 1 0 0 0 := rfl
theorem oq_X2_join_106 : cw_ho 36 106 (.ifCond .ge 7) 3 0 0 0 := rfl
theorem oq_X2_join_109 : cw_ho 36 109 (.lconst 1) 1 0 0 0 := rfl
theorem oq_X2_join_110 : cw_ho 36 110 (.goto 4) 3 0 0 0 := rfl
theorem oq_X2_join_113 : cw_ho 36 113 (.lconst 0) 1 0 0 0 := rfl
theorem oq_X2_join_114 : cw_ho 36 114 (.lreturn) 1 0 0 0 := rfl
theorem oq_X2_join_115 : cw_ho 36 115 (.lload_n 2) 1 0 0 0 := rfl
theorem oq_X2_join_116 : cw_ho 36 116 (.lload 4) 2 0 0 0 := rfl
theorem oq_X2_join_118 : cw_ho 36 118 (.lcmp) 1 0 0 0 := rfl
theorem oq_X2_join_119 : cw_ho 36 119 (.ifCond .gt 7) 3 0 0 0 := rfl
theorem oq_X2_join_122 : cw_ho 36 122 (.lconst 1) 1 0 0 0 := rfl
theorem oq_X2_join_123 : cw_ho 36 123 (.goto 4) 3 0 0 0 := rfl
theorem oq_X2_join_126 : cw_ho 36 126 (.lconst 0) 1 0 0 0 := rfl
theorem oq_X2_join_127 : cw_ho 36 127 (.lreturn) 1 0 0 0 := rfl
theorem oq_X2_join_128 : cw_ho 36 128 (.lload_n 2) 1 0 0 0 := rfl
theorem oq_X2_join_129 : cw_ho 36 129 (.lload 4) 2 0 0 0 := rfl
theorem oq_X2_join_131 : cw_ho 36 131 (.lcmp) 1 0 0 0 := rfl
theorem oq_X2_join_132 : cw_ho 36 132 (.ifCond .ne 7) 3 0 0 0 := rfl
theorem oq_X2_join_135 : cw_ho 36 135 (.lconst 1) 1 0 0 0 := rfl
theorem oq_X2_join_136 : cw_ho 36 136 (.goto 4) 3 0 0 0 := rfl
theorem oq_X2_join_139 : cw_ho 36 139 (.lconst 0) 1 0 0 0 := rfl
theorem oq_X2_join_140 : cw_ho 36 140 (.lreturn) 1 0 0 0 := rfl
theorem oq_X2_join_141 : cw_ho 36 141 (.lload_n 2) 1 0 0 0 := rfl
theorem oq_X2_join_142 : cw_ho 36 142 (.lload 4) 2 0 0 0 := rfl
theorem oq_X2_join_144 : cw_ho 36 144 (.lcmp) 1 0 0 0 := rfl
theorem oq_X2_join_145 : cw_ho 36 145 (.ifCond .eq 7) 3 0 0 0 := rfl
theorem oq_X2_join_148 : cw_ho 36 148 (.lconst 1) 1 0 0 0 := rfl
theorem oq_X2_join_149 : cw_ho 36 149 (.goto 4) 3 0 0 0 := rfl
theorem oq_X2_join_152 : cw_ho 36 152 (.lconst 0) 1 0 0 0 := rfl
theorem oq_X2_join_153 : cw_ho 36 153 (.lreturn) 1 0 0 0 := rfl
theorem oq_X2_join_154 : cw_ho 36 154 (.lload_n 2) 1 0 0 0 := rfl
theorem oq_X2_join_155 : cw_ho 36 155 (.lload 4) 2 0 0 0 := rfl
theorem oq_X2_join_157 : cw_ho 36 157 (.lcmp) 1 0 0 0 := rfl
theorem oq_X2_join_158 : cw_ho 36 158 (.ifCond .lt 7) 3 0 0 0 := rfl
theorem oq_X2_join_161 : cw_ho 36 161 (.lconst 1) 1 0 0 0 := rfl
theorem oq_X2_join_162 : cw_ho 36 162 (.goto 4) 3 0 0 0 := rfl
theorem oq_X2_join_165 : cw_ho 36 165 (.lconst 0) 1 0 0 0 := rfl
theorem oq_X2_join_166 : cw_ho 36 166 (.lreturn) 1 0 0 0 := rfl
theorem oq_X2_join_167 : cw_ho 36 167 (.lload_n 2) 1 0 0 0 := rfl
theorem oq_X2_join_168 : cw_ho 36 168 (.lload 4) 2 0 0 0 := rfl
theorem oq_X2_join_170 : cw_ho 36 170 (.lcmp) 1 0 0 0 := rfl
theorem oq_X2_join_171 : cw_ho 36 171 (.ifCond .le 7) 3 0 0 0 := rfl
theorem oq_X2_join_174 : cw_ho 36 174 (.lconst 1) 1 0 0 0 := rfl
theorem oq_X2_join_175 : cw_ho 36 175 (.goto 4) 3 0 0 0 := rfl
theorem oq_X2_join_178 : cw_ho 36 178 (.lconst 0) 1 0 0 0 := rfl
theorem oq_X2_join_179 : cw_ho 36 179 (.lreturn) 1 0 0 0 := rfl
theorem oq_X2_join_180 : cw_ho 36 180 (.aload_n 0) 1 0 0 0 := rfl
theorem oq_X2_join_181 : cw_ho 36 181 (.lload_n 2) 1 0 0 0 := rfl
theorem oq_X2_join_182 : cw_ho 36 182 (.lload 4) 2 0 0 0 := rfl
theorem oq_X2_join_184 : cw_ho 36 184 (.ladd) 1 0 0 0 := rfl
theorem oq_X2_join_185 : cw_ho 36 185 (.invokevirtual 121) 3 37 1 2 := rfl
theorem oq_X2_join_188 : cw_ho 36 188 (.lreturn) 1 0 0 0 := rfl
theorem oq_X2_join_189 : cw_ho 36 189 (.aload_n 0) 1 0 0 0 := rfl
theorem oq_X2_join_190 : cw_ho 36 190 (.lload_n 2) 1 0 0 0 := rfl
theorem oq_X2_join_191 : cw_ho 36 191 (.lload 4) 2 0 0 0 := rfl
theorem oq_X2_join_193 : cw_ho 36 193 (.lsub) 1 0 0 0 := rfl
theorem oq_X2_join_194 : cw_ho 36 194 (.invokevirtual 121) 3 37 1 2 := rfl
theorem oq_X2_join_197 : cw_ho 36 197 (.lreturn) 1 0 0 0 := rfl
theorem oq_X2_join_198 : cw_ho 36 198 (.aload_n 0) 1 0 0 0 := rfl
theorem oq_X2_join_199 : cw_ho 36 199 (.lload_n 2) 1 0 0 0 := rfl
theorem oq_X2_join_200 : cw_ho 36 200 (.lload 4) 2 0 0 0 := rfl
theorem oq_X2_join_202 : cw_ho 36 202 (.invokevirtual 125) 3 38 2 2 := rfl
theorem oq_X2_join_205 : cw_ho 36 205 (.lreturn) 1 0 0 0 := rfl
theorem oq_X2_join_206 : cw_ho 36 206 (.aload_n 0) 1 0 0 0 := rfl
theorem oq_X2_join_207 : cw_ho 36 207 (.lload_n 2) 1 0 0 0 := rfl
theorem oq_X2_join_208 : cw_ho 36 208 (.lload 4) 2 0 0 0 := rfl
theorem oq_X2_join_210 : cw_ho 36 210 (.invokevirtual 128) 3 39 2 2 := rfl
theorem oq_X2_join_213 : cw_ho 36 213 (.lreturn) 1 0 0 0 := rfl
set_option maxHeartbeats 4000000 in
theorem cl_join (hT : cw_T G h) {k : Int32} {l r : Int64} (hk : 20000 ≤ k.toInt ∧ k.toInt ≤ 20012) (hk2 : ¬ k.toInt = 20002) (hl : zbb l.toInt) (hr : zbb r.toInt) (he : ri_at h 55 4 = 0) (hQ : ∀ (y : Int64) h', cw_T G h' → zE5 h h' → (ri_at h' 55 4 = 0 ∧ zjn (zri k.toInt) l.toInt r.toInt = some y.toInt ∨ ri_at h' 55 4 = 1 ∧ zjn (zri k.toInt) l.toInt r.toInt = none) → Q (some (cv_l y), h')) : cw_X X 36 Q 0 (cv_ent 0 [cv_r 55, cv_i k, cv_l l, cv_l r]) [] h := by
  have hlb := hl
  have hrb := hr
  unfold zbb at hlb hrb
  refine ex_il oq_X2_join_0 rfl ?_
  refine ex_tsw oq_X2_join_1 rfl (fun c11 => ⟨rfl, ?_⟩) (fun i hi c11 => ?_)
  · show cw_X _ _ _ 206 _ _ _
    refine ex_al oq_X2_join_206 rfl ?_
    refine ex_ll oq_X2_join_207 rfl ?_
    refine ex_llw oq_X2_join_208 rfl ?_
    refine ex_cv oq_X2_join_210 (by decide) hT (k := 55) (d := 2) (as := [cv_l l, cv_l r]) (stk := []) rfl rfl rfl rfl rfl rfl ⟨rfl, rfl⟩ (R := fun o => ∃ (y : Int64) (e : Int32) (hb : cv_H), o = (some (cv_l y), hb) ∧ cw_T G hb ∧ cw_Wr h hb 55 4 (cv_i e) ∧ (e.toInt = 0 ∧ ¬ r.toInt = 0 ∧ y.toInt = l.toInt.tdiv r.toInt ∨ e.toInt = 1 ∧ r.toInt = 0 ∧ y.toInt = 0)) (cl_by hT hl (fun y {e} hb b1 b2 b3 => ⟨y, e, hb, rfl, b1, b2, b3⟩)) (fun o ho => ?_)
    obtain ⟨yx12, ex12, h13, rfl, Th13, wh13, dx12⟩ := ho
    show cw_X _ _ _ _ _ [cv_l yx12] h13
    refine ex_retl oq_X2_join_213 rfl (hQ yx12 h13 Th13 (zE5_w wh13) ?_)
    rw [show k.toInt = 20012 from by omega, zJ_12]
    rcases dx12 with ⟨d1, d2, d3⟩ | ⟨d1, d2, d3⟩
    · exact .inl ⟨(ri_self wh13).trans d1, by rw [if_neg d2, d3]⟩
    · exact .inr ⟨(ri_self wh13).trans d1, by rw [if_pos d2]⟩
  · match i, hi, c11 with
    | 0, _, c11 =>
      refine ⟨rfl, ?_⟩
      show cw_X _ _ _ 64 _ _ _
      refine ex_ll oq_X2_join_64 rfl ?_
      refine ex_lc oq_X2_join_65 (m := 0) (by decide) (fun x14 hx14 => ?_)
      refine ex_lcmpV oq_X2_join_66 (fun x15 hx15 => ?_)
      refine ex_if0 oq_X2_join_67 (t := 77) rfl rfl (fun (c16 : ¬ x15.toInt = 0) => ?_) (fun (c16 : ¬ (¬ x15.toInt = 0)) => ?_)
      · refine ex_lc oq_X2_join_77 (m := 1) (by decide) (fun x17 hx17 => ?_)
        refine ex_go oq_X2_join_78 (t := 82) rfl rfl ?_
        exact ex_retl oq_X2_join_82 rfl (hQ x17 h hT zE5_0 (.inl ⟨he, by rw [show k.toInt = 20000 from by omega, zJ_0]; exact congrArg some (by split <;> omega)⟩))
      · refine ex_llw oq_X2_join_70 rfl ?_
        refine ex_lc oq_X2_join_72 (m := 0) (by decide) (fun x18 hx18 => ?_)
        refine ex_lcmpV oq_X2_join_73 (fun x19 hx19 => ?_)
        refine ex_if0 oq_X2_join_74 (t := 81) rfl rfl (fun (c20 : x19.toInt = 0) => ?_) (fun (c20 : ¬ (x19.toInt = 0)) => ?_)
        · refine ex_lc oq_X2_join_81 (m := 0) (by decide) (fun x21 hx21 => ?_)
          exact ex_retl oq_X2_join_82 rfl (hQ x21 h hT zE5_0 (.inl ⟨he, by rw [show k.toInt = 20000 from by omega, zJ_0]; exact congrArg some (by split <;> omega)⟩))
        · refine ex_lc oq_X2_join_77 (m := 1) (by decide) (fun x22 hx22 => ?_)
          refine ex_go oq_X2_join_78 (t := 82) rfl rfl ?_
          exact ex_retl oq_X2_join_82 rfl (hQ x22 h hT zE5_0 (.inl ⟨he, by rw [show k.toInt = 20000 from by omega, zJ_0]; exact congrArg some (by split <;> omega)⟩))
    | 1, _, c11 =>
      refine ⟨rfl, ?_⟩
      show cw_X _ _ _ 83 _ _ _
      refine ex_ll oq_X2_join_83 rfl ?_
      refine ex_lc oq_X2_join_84 (m := 0) (by decide) (fun x23 hx23 => ?_)
      refine ex_lcmpV oq_X2_join_85 (fun x24 hx24 => ?_)
      refine ex_if0 oq_X2_join_86 (t := 100) rfl rfl (fun (c25 : x24.toInt = 0) => ?_) (fun (c25 : ¬ (x24.toInt = 0)) => ?_)
      · refine ex_lc oq_X2_join_100 (m := 0) (by decide) (fun x26 hx26 => ?_)
        exact ex_retl oq_X2_join_101 rfl (hQ x26 h hT zE5_0 (.inl ⟨he, by rw [show k.toInt = 20001 from by omega, zJ_1]; exact congrArg some (by split <;> omega)⟩))
      · refine ex_llw oq_X2_join_89 rfl ?_
        refine ex_lc oq_X2_join_91 (m := 0) (by decide) (fun x27 hx27 => ?_)
        refine ex_lcmpV oq_X2_join_92 (fun x28 hx28 => ?_)
        refine ex_if0 oq_X2_join_93 (t := 100) rfl rfl (fun (c29 : x28.toInt = 0) => ?_) (fun (c29 : ¬ (x28.toInt = 0)) => ?_)
        · refine ex_lc oq_X2_join_100 (m := 0) (by decide) (fun x30 hx30 => ?_)
          exact ex_retl oq_X2_join_101 rfl (hQ x30 h hT zE5_0 (.inl ⟨he, by rw [show k.toInt = 20001 from by omega, zJ_1]; exact congrArg some (by split <;> omega)⟩))
        · refine ex_lc oq_X2_join_96 (m := 1) (by decide) (fun x31 hx31 => ?_)
          refine ex_go oq_X2_join_97 (t := 101) rfl rfl ?_
          exact ex_retl oq_X2_join_101 rfl (hQ x31 h hT zE5_0 (.inl ⟨he, by rw [show k.toInt = 20001 from by omega, zJ_1]; exact congrArg some (by split <;> omega)⟩))
    | 2, _, c11 =>
      refine ⟨rfl, ?_⟩
      show cw_X _ _ _ 206 _ _ _
      exfalso; omega
    | 3, _, c11 =>
      refine ⟨rfl, ?_⟩
      show cw_X _ _ _ 102 _ _ _
      refine ex_ll oq_X2_join_102 rfl ?_
      refine ex_llw oq_X2_join_103 rfl ?_
      refine ex_lcmpV oq_X2_join_105 (fun x32 hx32 => ?_)
      refine ex_if0 oq_X2_join_106 (t := 113) rfl rfl (fun (c33 : 0 ≤ x32.toInt) => ?_) (fun (c33 : ¬ (0 ≤ x32.toInt)) => ?_)
      · refine ex_lc oq_X2_join_113 (m := 0) (by decide) (fun x34 hx34 => ?_)
        exact ex_retl oq_X2_join_114 rfl (hQ x34 h hT zE5_0 (.inl ⟨he, by rw [show k.toInt = 20003 from by omega, zJ_3]; exact congrArg some (by split <;> omega)⟩))
      · refine ex_lc oq_X2_join_109 (m := 1) (by decide) (fun x35 hx35 => ?_)
        refine ex_go oq_X2_join_110 (t := 114) rfl rfl ?_
        exact ex_retl oq_X2_join_114 rfl (hQ x35 h hT zE5_0 (.inl ⟨he, by rw [show k.toInt = 20003 from by omega, zJ_3]; exact congrArg some (by split <;> omega)⟩))
    | 4, _, c11 =>
      refine ⟨rfl, ?_⟩
      show cw_X _ _ _ 115 _ _ _
      refine ex_ll oq_X2_join_115 rfl ?_
      refine ex_llw oq_X2_join_116 rfl ?_
      refine ex_lcmpV oq_X2_join_118 (fun x36 hx36 => ?_)
      refine ex_if0 oq_X2_join_119 (t := 126) rfl rfl (fun (c37 : 0 < x36.toInt) => ?_) (fun (c37 : ¬ (0 < x36.toInt)) => ?_)
      · refine ex_lc oq_X2_join_126 (m := 0) (by decide) (fun x38 hx38 => ?_)
        exact ex_retl oq_X2_join_127 rfl (hQ x38 h hT zE5_0 (.inl ⟨he, by rw [show k.toInt = 20004 from by omega, zJ_4]; exact congrArg some (by split <;> omega)⟩))
      · refine ex_lc oq_X2_join_122 (m := 1) (by decide) (fun x39 hx39 => ?_)
        refine ex_go oq_X2_join_123 (t := 127) rfl rfl ?_
        exact ex_retl oq_X2_join_127 rfl (hQ x39 h hT zE5_0 (.inl ⟨he, by rw [show k.toInt = 20004 from by omega, zJ_4]; exact congrArg some (by split <;> omega)⟩))
    | 5, _, c11 =>
      refine ⟨rfl, ?_⟩
      show cw_X _ _ _ 128 _ _ _
      refine ex_ll oq_X2_join_128 rfl ?_
      refine ex_llw oq_X2_join_129 rfl ?_
      refine ex_lcmpV oq_X2_join_131 (fun x40 hx40 => ?_)
      refine ex_if0 oq_X2_join_132 (t := 139) rfl rfl (fun (c41 : ¬ x40.toInt = 0) => ?_) (fun (c41 : ¬ (¬ x40.toInt = 0)) => ?_)
      · refine ex_lc oq_X2_join_139 (m := 0) (by decide) (fun x42 hx42 => ?_)
        exact ex_retl oq_X2_join_140 rfl (hQ x42 h hT zE5_0 (.inl ⟨he, by rw [show k.toInt = 20005 from by omega, zJ_5]; exact congrArg some (by split <;> omega)⟩))
      · refine ex_lc oq_X2_join_135 (m := 1) (by decide) (fun x43 hx43 => ?_)
        refine ex_go oq_X2_join_136 (t := 140) rfl rfl ?_
        exact ex_retl oq_X2_join_140 rfl (hQ x43 h hT zE5_0 (.inl ⟨he, by rw [show k.toInt = 20005 from by omega, zJ_5]; exact congrArg some (by split <;> omega)⟩))
    | 6, _, c11 =>
      refine ⟨rfl, ?_⟩
      show cw_X _ _ _ 141 _ _ _
      refine ex_ll oq_X2_join_141 rfl ?_
      refine ex_llw oq_X2_join_142 rfl ?_
      refine ex_lcmpV oq_X2_join_144 (fun x44 hx44 => ?_)
      refine ex_if0 oq_X2_join_145 (t := 152) rfl rfl (fun (c45 : x44.toInt = 0) => ?_) (fun (c45 : ¬ (x44.toInt = 0)) => ?_)
      · refine ex_lc oq_X2_join_152 (m := 0) (by decide) (fun x46 hx46 => ?_)
        exact ex_retl oq_X2_join_153 rfl (hQ x46 h hT zE5_0 (.inl ⟨he, by rw [show k.toInt = 20006 from by omega, zJ_6]; exact congrArg some (by split <;> omega)⟩))
      · refine ex_lc oq_X2_join_148 (m := 1) (by decide) (fun x47 hx47 => ?_)
        refine ex_go oq_X2_join_149 (t := 153) rfl rfl ?_
        exact ex_retl oq_X2_join_153 rfl (hQ x47 h hT zE5_0 (.inl ⟨he, by rw [show k.toInt = 20006 from by omega, zJ_6]; exact congrArg some (by split <;> omega)⟩))
    | 7, _, c11 =>
      refine ⟨rfl, ?_⟩
      show cw_X _ _ _ 154 _ _ _
      refine ex_ll oq_X2_join_154 rfl ?_
      refine ex_llw oq_X2_join_155 rfl ?_
      refine ex_lcmpV oq_X2_join_157 (fun x48 hx48 => ?_)
      refine ex_if0 oq_X2_join_158 (t := 165) rfl rfl (fun (c49 : x48.toInt < 0) => ?_) (fun (c49 : ¬ (x48.toInt < 0)) => ?_)
      · refine ex_lc oq_X2_join_165 (m := 0) (by decide) (fun x50 hx50 => ?_)
        exact ex_retl oq_X2_join_166 rfl (hQ x50 h hT zE5_0 (.inl ⟨he, by rw [show k.toInt = 20007 from by omega, zJ_7]; exact congrArg some (by split <;> omega)⟩))
      · refine ex_lc oq_X2_join_161 (m := 1) (by decide) (fun x51 hx51 => ?_)
        refine ex_go oq_X2_join_162 (t := 166) rfl rfl ?_
        exact ex_retl oq_X2_join_166 rfl (hQ x51 h hT zE5_0 (.inl ⟨he, by rw [show k.toInt = 20007 from by omega, zJ_7]; exact congrArg some (by split <;> omega)⟩))
    | 8, _, c11 =>
      refine ⟨rfl, ?_⟩
      show cw_X _ _ _ 167 _ _ _
      refine ex_ll oq_X2_join_167 rfl ?_
      refine ex_llw oq_X2_join_168 rfl ?_
      refine ex_lcmpV oq_X2_join_170 (fun x52 hx52 => ?_)
      refine ex_if0 oq_X2_join_171 (t := 178) rfl rfl (fun (c53 : x52.toInt ≤ 0) => ?_) (fun (c53 : ¬ (x52.toInt ≤ 0)) => ?_)
      · refine ex_lc oq_X2_join_178 (m := 0) (by decide) (fun x54 hx54 => ?_)
        exact ex_retl oq_X2_join_179 rfl (hQ x54 h hT zE5_0 (.inl ⟨he, by rw [show k.toInt = 20008 from by omega, zJ_8]; exact congrArg some (by split <;> omega)⟩))
      · refine ex_lc oq_X2_join_174 (m := 1) (by decide) (fun x55 hx55 => ?_)
        refine ex_go oq_X2_join_175 (t := 179) rfl rfl ?_
        exact ex_retl oq_X2_join_179 rfl (hQ x55 h hT zE5_0 (.inl ⟨he, by rw [show k.toInt = 20008 from by omega, zJ_8]; exact congrArg some (by split <;> omega)⟩))
    | 9, _, c11 =>
      refine ⟨rfl, ?_⟩
      show cw_X _ _ _ 180 _ _ _
      refine ex_al oq_X2_join_180 rfl ?_
      refine ex_ll oq_X2_join_181 rfl ?_
      refine ex_llw oq_X2_join_182 rfl ?_
      refine ex_laddV oq_X2_join_184 (by omega) (fun x56 hx56 => ?_)
      refine ex_cv oq_X2_join_185 (by decide) hT (k := 55) (d := 2) (as := [cv_l x56]) (stk := []) rfl rfl rfl rfl rfl rfl ⟨rfl, rfl⟩ (R := fun o => ∃ (e : Int32) (hb : cv_H), o = (some (cv_l x56), hb) ∧ cw_T G hb ∧ cw_Wr h hb 55 4 (cv_i e) ∧ (e.toInt = 0 ∧ zB12 x56.toInt = some x56.toInt ∨ e.toInt = 1 ∧ zB12 x56.toInt = none)) (cl_bounded hT (fun {e} hb b1 b2 b3 => ⟨e, hb, rfl, b1, b2, b3⟩)) (fun o ho => ?_)
      obtain ⟨ex57, h58, rfl, Th58, wh58, dx57⟩ := ho
      show cw_X _ _ _ _ _ [cv_l x56] h58
      refine ex_retl oq_X2_join_188 rfl (hQ x56 h58 Th58 (zE5_w wh58) ?_)
      rw [show k.toInt = 20009 from by omega, zJ_9]
      rcases dx57 with ⟨d1, d2⟩ | ⟨d1, d2⟩
      · exact .inl ⟨(ri_self wh58).trans d1, by rw [← hx56]; exact d2⟩
      · exact .inr ⟨(ri_self wh58).trans d1, by rw [← hx56]; exact d2⟩
    | 10, _, c11 =>
      refine ⟨rfl, ?_⟩
      show cw_X _ _ _ 189 _ _ _
      refine ex_al oq_X2_join_189 rfl ?_
      refine ex_ll oq_X2_join_190 rfl ?_
      refine ex_llw oq_X2_join_191 rfl ?_
      refine ex_lsubV oq_X2_join_193 (by omega) (fun x59 hx59 => ?_)
      refine ex_cv oq_X2_join_194 (by decide) hT (k := 55) (d := 2) (as := [cv_l x59]) (stk := []) rfl rfl rfl rfl rfl rfl ⟨rfl, rfl⟩ (R := fun o => ∃ (e : Int32) (hb : cv_H), o = (some (cv_l x59), hb) ∧ cw_T G hb ∧ cw_Wr h hb 55 4 (cv_i e) ∧ (e.toInt = 0 ∧ zB12 x59.toInt = some x59.toInt ∨ e.toInt = 1 ∧ zB12 x59.toInt = none)) (cl_bounded hT (fun {e} hb b1 b2 b3 => ⟨e, hb, rfl, b1, b2, b3⟩)) (fun o ho => ?_)
      obtain ⟨ex60, h61, rfl, Th61, wh61, dx60⟩ := ho
      show cw_X _ _ _ _ _ [cv_l x59] h61
      refine ex_retl oq_X2_join_197 rfl (hQ x59 h61 Th61 (zE5_w wh61) ?_)
      rw [show k.toInt = 20010 from by omega, zJ_10]
      rcases dx60 with ⟨d1, d2⟩ | ⟨d1, d2⟩
      · exact .inl ⟨(ri_self wh61).trans d1, by rw [← hx59]; exact d2⟩
      · exact .inr ⟨(ri_self wh61).trans d1, by rw [← hx59]; exact d2⟩
    | 11, _, c11 =>
      refine ⟨rfl, ?_⟩
      show cw_X _ _ _ 198 _ _ _
      refine ex_al oq_X2_join_198 rfl ?_
      refine ex_ll oq_X2_join_199 rfl ?_
      refine ex_llw oq_X2_join_200 rfl ?_
      refine ex_cv oq_X2_join_202 (by decide) hT (k := 55) (d := 2) (as := [cv_l l, cv_l r]) (stk := []) rfl rfl rfl rfl rfl rfl ⟨rfl, rfl⟩ (R := fun o => ∃ (y : Int64) (e : Int32) (hb : cv_H), o = (some (cv_l y), hb) ∧ cw_T G hb ∧ cw_Wr h hb 55 4 (cv_i e) ∧ (e.toInt = 0 ∧ zB12 (l.toInt * r.toInt) = some y.toInt ∨ e.toInt = 1 ∧ zB12 (l.toInt * r.toInt) = none ∧ y.toInt = 0)) (cl_times hT hl hr (fun y {e} hb b1 b2 b3 => ⟨y, e, hb, rfl, b1, b2, b3⟩)) (fun o ho => ?_)
      obtain ⟨yx62, ex62, h63, rfl, Th63, wh63, dx62⟩ := ho
      show cw_X _ _ _ _ _ [cv_l yx62] h63
      refine ex_retl oq_X2_join_205 rfl (hQ yx62 h63 Th63 (zE5_w wh63) ?_)
      rw [show k.toInt = 20011 from by omega, zJ_11]
      rcases dx62 with ⟨d1, d2⟩ | ⟨d1, d2, d3⟩
      · exact .inl ⟨(ri_self wh63).trans d1, d2⟩
      · exact .inr ⟨(ri_self wh63).trans d1, d2⟩
    | i + 12, hi, _ => exact absurd hi (by show ¬ i + 12 < 12; omega)
/-- depth of the stack: enough for each sign -/
def zdp : Nat → List Int → Prop
  | _, [] => True
  | d, c :: cs => zka c ≤ d ∧ zdp (d + 1 - zka c) cs
def zrowL (h : cv_H) (k : Nat) (S : List Int) : Prop := ∀ i, i < S.length → rl_at h k i = S.getD (S.length - 1 - i) 0
theorem zrowL_eq {h h' : cv_H} {k : Nat} {S : List Int} (a : zrowL h k S) (e : h'[k]? = h[k]?) : zrowL h' k S := fun i hi => (rl_eq (by unfold cw_at; rw [e])).trans (a i hi)
theorem zrowL_tail {h : cv_H} {k : Nat} {a : Int} {S : List Int} (hr : zrowL h k (a :: S)) : zrowL h k S := by
  intro i hi
  rw [hr i (by simp; omega)]
  rw [List.length_cons, show S.length + 1 - 1 - i = (S.length - 1 - i) + 1 from by omega, List.getD_cons_succ]
theorem zrowL_top {h : cv_H} {k : Nat} {a : Int} {S : List Int} (hr : zrowL h k (a :: S)) : rl_at h k S.length = a := by
  rw [hr S.length (by simp)]
  simp
theorem zrowL_push {h h' : cv_H} {k : Nat} {x : Int64} {a : Int} {S : List Int} (hr : zrowL h k S) (w : cw_Wr h h' k S.length (cv_l x)) (e : x.toInt = a) : zrowL h' k (a :: S) := by
  intro i hi
  rw [List.length_cons] at hi
  by_cases c : i = S.length
  · rw [c, rl_self w, e]; simp
  · rw [rl_ne w (.inr c), hr i (by omega), List.length_cons, show S.length + 1 - 1 - i = (S.length - 1 - i) + 1 from by omega, List.getD_cons_succ]
/-- what working a law out may change -/
def zE (h h' : cv_H) : Prop := (∀ k : Nat, k ≠ 55 → k ≠ 57 → h'[k]? = h[k]?) ∧ ∀ i, i ≠ 4 → cw_at h' 55 i = cw_at h 55 i
theorem zE_0 {h : cv_H} : zE h h := ⟨fun _ _ _ => rfl, fun _ _ => rfl⟩
theorem zE_w {h0 h h' : cv_H} {j : Nat} {v : cv_V} (a : zE h0 h) (w : cw_Wr h h' 57 j v) : zE h0 h' := ⟨fun k p q => (w.2.2 k q).trans (a.1 k p q), fun i q => (w.2.1 55 i (.inl (by decide))).trans (a.2 i q)⟩
theorem zE_4 {h0 h h' : cv_H} {v : cv_V} (a : zE h0 h) (w : cw_Wr h h' 55 4 v) : zE h0 h' := ⟨fun k p q => (w.2.2 k p).trans (a.1 k p q), fun i q => (w.2.1 55 i (.inr q)).trans (a.2 i q)⟩
theorem zE_5 {h0 h h' : cv_H} (a : zE h0 h) (w : zE5 h h') : zE h0 h' := ⟨fun k p q => (w.1 k p).trans (a.1 k p q), fun i q => (w.2 i q).trans (a.2 i q)⟩
theorem zE_at {h0 h : cv_H} {k i : Nat} (a : zE h0 h) (p : k ≠ 55) (q : k ≠ 57) : cw_at h k i = cw_at h0 k i := by unfold cw_at; rw [a.1 k p q]
theorem zE_ri {h0 h : cv_H} {k i : Nat} (a : zE h0 h) (p : k ≠ 55) (q : k ≠ 57) : ri_at h k i = ri_at h0 k i := ri_eq (zE_at a p q)
theorem zE_rl {h0 h : cv_H} {k i : Nat} (a : zE h0 h) (p : k ≠ 55) (q : k ≠ 57) : rl_at h k i = rl_at h0 k i := rl_eq (zE_at a p q)
theorem zE1_0 {N : Nat → Int} {c y : Int} {S : List Int} (h : c < 20000) (d : c < 10000 ∧ y = c ∨ 10000 ≤ c ∧ y = N (c - 10000).toNat) : zE1 N c S = some (y :: S) := by
  unfold zE1
  rcases d with ⟨d1, d2⟩ | ⟨d1, d2⟩
  · rw [if_pos d1, d2]
  · rw [if_neg (by omega), if_pos h, d2]
theorem zE1_1 {N : Nat → Int} {a : Int} {S : List Int} : zE1 N 20002 (a :: S) = some ((if a = 0 then 1 else 0) :: S) := rfl
theorem zE1_2 {N : Nat → Int} {a b c : Int} {S : List Int} (h : 20000 ≤ c) (h2 : ¬ c = 20002) : zE1 N c (b :: a :: S) = (zjn (zri c) a b).map (fun v => v :: S) := by
  unfold zE1
  rw [if_neg (by omega), if_neg (by omega), if_neg h2]
theorem zka_v {c : Int} : (c < 20000 → zka c = 0) ∧ (c = 20002 → zka c = 1) ∧ (20000 ≤ c → ¬ c = 20002 → zka c = 2) := by
  unfold zka
  refine ⟨fun h => if_pos h, fun h => by rw [if_neg (by omega), if_pos h], fun h h2 => by rw [if_neg (by omega), if_neg h2]⟩
theorem getD_mid {pre rest : List Int} {c : Int} : (pre ++ c :: rest).getD pre.length 0 = c := by
  rw [List.getD_eq_getElem?_getD, List.getElem?_append_right (Nat.le_refl _), Nat.sub_self]
  rfl
section WO
variable {h0 : cv_H} {b RC RA RB : Nat} {law : Int32} {a : Nat} {cs : List Int} {N : Nat → Int}
theorem oq_X2_workOut_240 : cw_ho 34 240 (.aload_n 0) 1 0 0 0 := rfl
theorem oq_X2_workOut_241 : cw_ho 34 241 (.getfield 15) 3 2 1 4 := rfl
theorem oq_X2_workOut_244 : cw_ho 34 244 (.iconst 0) 1 0 0 0 := rfl
theorem oq_X2_workOut_245 : cw_ho 34 245 (.laload) 1 0 0 0 := rfl
theorem oq_X2_workOut_246 : cw_ho 34 246 (.lreturn) 1 0 0 0 := rfl
theorem wo_end (hQ : ∀ (y : Int64) h', cw_T G h' → zE h0 h' → (ri_at h' 55 4 = 0 ∧ zLV N cs = some y.toInt ∨ ri_at h' 55 4 = 1 ∧ zLV N cs = none) → Q (some (cv_l y), h')) {w : Int} (hT : cw_T G h) (hE : zE h0 h) (he : ri_at h 55 4 = 0) (hr : zrowL h 57 [w]) (hev : zev N cs [] = some [w]) {L : cv_L} (g0 : cv_get L 0 = some (cv_r 55)) : cw_X X 34 Q 240 L [] h := by
  refine ex_al oq_X2_workOut_240 g0 ?_
  refine ex_gf oq_X2_workOut_241 hT (k := 55) (d := 2) rfl rfl (ri_ref (k := 55) (k' := 57) (d := 2) (f := 1) hT rfl rfl rfl (by decide) (ri_uniq (by decide +kernel))) ?_
  refine ex_ic oq_X2_workOut_244 (m := 0) (by decide) (fun x101 hx101 => ?_)
  refine ex_laV oq_X2_workOut_245 hT (k := 57) (d := 18) (j := 0) rfl rfl (by omega) (by omega) (fun x102 hx102 => ?_)
  replace hx102 : x102.toInt = w := hx102.symm.trans (zrowL_top (S := []) hr)
  exact ex_retl oq_X2_workOut_246 rfl (hQ x102 h hT hE (.inl ⟨he, by unfold zLV; rw [hev]; exact congrArg some hx102.symm⟩))
theorem oq_X2_workOut_40 : cw_ho 34 40 (.iload 4) 2 0 0 0 := rfl
theorem oq_X2_workOut_42 : cw_ho 34 42 (.bipush 64) 2 0 0 0 := rfl
theorem oq_X2_workOut_44 : cw_ho 34 44 (.if_icmp .ge 196) 3 0 0 0 := rfl
theorem oq_X2_workOut_47 : cw_ho 34 47 (.iload 4) 2 0 0 0 := rfl
theorem oq_X2_workOut_49 : cw_ho 34 49 (.aload_n 1) 1 0 0 0 := rfl
theorem oq_X2_workOut_50 : cw_ho 34 50 (.getfield 107) 3 4 5 4 := rfl
theorem oq_X2_workOut_53 : cw_ho 34 53 (.iload_n 2) 1 0 0 0 := rfl
theorem oq_X2_workOut_54 : cw_ho 34 54 (.iaload) 1 0 0 0 := rfl
theorem oq_X2_workOut_55 : cw_ho 34 55 (.if_icmp .ge 185) 3 0 0 0 := rfl
theorem oq_X2_workOut_58 : cw_ho 34 58 (.iload 4) 2 0 0 0 := rfl
theorem oq_X2_workOut_60 : cw_ho 34 60 (.ifCond .lt 13) 3 0 0 0 := rfl
theorem oq_X2_workOut_63 : cw_ho 34 63 (.aload_n 1) 1 0 0 0 := rfl
theorem oq_X2_workOut_64 : cw_ho 34 64 (.getfield 110) 3 4 1 4 := rfl
theorem oq_X2_workOut_67 : cw_ho 34 67 (.iload 4) 2 0 0 0 := rfl
theorem oq_X2_workOut_69 : cw_ho 34 69 (.iaload) 1 0 0 0 := rfl
theorem oq_X2_workOut_70 : cw_ho 34 70 (.goto 4) 3 0 0 0 := rfl
theorem oq_X2_workOut_74 : cw_ho 34 74 (.istore 5) 2 0 0 0 := rfl
theorem oq_X2_workOut_76 : cw_ho 34 76 (.iload 5) 2 0 0 0 := rfl
theorem oq_X2_workOut_78 : cw_ho 34 78 (.sipush 20000) 3 0 0 0 := rfl
theorem oq_X2_workOut_81 : cw_ho 34 81 (.if_icmp .ge 7) 3 0 0 0 := rfl
theorem oq_X2_workOut_84 : cw_ho 34 84 (.iconst 0) 1 0 0 0 := rfl
theorem oq_X2_workOut_85 : cw_ho 34 85 (.goto 16) 3 0 0 0 := rfl
theorem oq_X2_workOut_88 : cw_ho 34 88 (.iload 5) 2 0 0 0 := rfl
theorem oq_X2_workOut_90 : cw_ho 34 90 (.sipush 20002) 3 0 0 0 := rfl
theorem oq_X2_workOut_93 : cw_ho 34 93 (.if_icmp .ne 7) 3 0 0 0 := rfl
theorem oq_X2_workOut_96 : cw_ho 34 96 (.iconst 1) 1 0 0 0 := rfl
theorem oq_X2_workOut_97 : cw_ho 34 97 (.goto 4) 3 0 0 0 := rfl
theorem oq_X2_workOut_100 : cw_ho 34 100 (.iconst 2) 1 0 0 0 := rfl
theorem oq_X2_workOut_101 : cw_ho 34 101 (.istore 6) 2 0 0 0 := rfl
theorem oq_X2_workOut_103 : cw_ho 34 103 (.iload_n 3) 1 0 0 0 := rfl
theorem oq_X2_workOut_104 : cw_ho 34 104 (.iload 6) 2 0 0 0 := rfl
theorem oq_X2_workOut_106 : cw_ho 34 106 (.isub) 1 0 0 0 := rfl
theorem oq_X2_workOut_107 : cw_ho 34 107 (.istore 7) 2 0 0 0 := rfl
theorem oq_X2_workOut_109 : cw_ho 34 109 (.iload 7) 2 0 0 0 := rfl
theorem oq_X2_workOut_111 : cw_ho 34 111 (.ifCond .lt 10) 3 0 0 0 := rfl
theorem oq_X2_workOut_114 : cw_ho 34 114 (.iload 7) 2 0 0 0 := rfl
theorem oq_X2_workOut_116 : cw_ho 34 116 (.bipush 64) 2 0 0 0 := rfl
theorem oq_X2_workOut_118 : cw_ho 34 118 (.if_icmp .lt 10) 3 0 0 0 := rfl
theorem oq_X2_workOut_128 : cw_ho 34 128 (.iload 6) 2 0 0 0 := rfl
theorem oq_X2_workOut_130 : cw_ho 34 130 (.ifCond .ne 19) 3 0 0 0 := rfl
theorem oq_X2_workOut_133 : cw_ho 34 133 (.aload_n 0) 1 0 0 0 := rfl
theorem oq_X2_workOut_134 : cw_ho 34 134 (.getfield 15) 3 2 1 4 := rfl
theorem oq_X2_workOut_137 : cw_ho 34 137 (.iload 7) 2 0 0 0 := rfl
theorem oq_X2_workOut_139 : cw_ho 34 139 (.aload_n 0) 1 0 0 0 := rfl
theorem oq_X2_workOut_140 : cw_ho 34 140 (.iload 5) 2 0 0 0 := rfl
theorem oq_X2_workOut_142 : cw_ho 34 142 (.invokevirtual 113) 3 35 1 2 := rfl
theorem oq_X2_workOut_145 : cw_ho 34 145 (.lastore) 1 0 0 0 := rfl
theorem oq_X2_workOut_146 : cw_ho 34 146 (.goto 74) 3 0 0 0 := rfl
theorem oq_X2_workOut_149 : cw_ho 34 149 (.iload 6) 2 0 0 0 := rfl
theorem oq_X2_workOut_151 : cw_ho 34 151 (.iconst 1) 1 0 0 0 := rfl
theorem oq_X2_workOut_152 : cw_ho 34 152 (.if_icmp .ne 30) 3 0 0 0 := rfl
theorem oq_X2_workOut_155 : cw_ho 34 155 (.aload_n 0) 1 0 0 0 := rfl
theorem oq_X2_workOut_156 : cw_ho 34 156 (.getfield 15) 3 2 1 4 := rfl
theorem oq_X2_workOut_159 : cw_ho 34 159 (.iload 7) 2 0 0 0 := rfl
theorem oq_X2_workOut_161 : cw_ho 34 161 (.aload_n 0) 1 0 0 0 := rfl
theorem oq_X2_workOut_162 : cw_ho 34 162 (.getfield 15) 3 2 1 4 := rfl
theorem oq_X2_workOut_165 : cw_ho 34 165 (.iload 7) 2 0 0 0 := rfl
theorem oq_X2_workOut_167 : cw_ho 34 167 (.laload) 1 0 0 0 := rfl
theorem oq_X2_workOut_168 : cw_ho 34 168 (.lconst 0) 1 0 0 0 := rfl
theorem oq_X2_workOut_169 : cw_ho 34 169 (.lcmp) 1 0 0 0 := rfl
theorem oq_X2_workOut_170 : cw_ho 34 170 (.ifCond .ne 7) 3 0 0 0 := rfl
theorem oq_X2_workOut_173 : cw_ho 34 173 (.lconst 1) 1 0 0 0 := rfl
theorem oq_X2_workOut_174 : cw_ho 34 174 (.goto 4) 3 0 0 0 := rfl
theorem oq_X2_workOut_177 : cw_ho 34 177 (.lconst 0) 1 0 0 0 := rfl
theorem oq_X2_workOut_178 : cw_ho 34 178 (.lastore) 1 0 0 0 := rfl
theorem oq_X2_workOut_179 : cw_ho 34 179 (.goto 41) 3 0 0 0 := rfl
theorem oq_X2_workOut_182 : cw_ho 34 182 (.iload 7) 2 0 0 0 := rfl
theorem oq_X2_workOut_184 : cw_ho 34 184 (.iconst 1) 1 0 0 0 := rfl
theorem oq_X2_workOut_185 : cw_ho 34 185 (.iadd) 1 0 0 0 := rfl
theorem oq_X2_workOut_186 : cw_ho 34 186 (.bipush 64) 2 0 0 0 := rfl
theorem oq_X2_workOut_188 : cw_ho 34 188 (.if_icmp .ge 32) 3 0 0 0 := rfl
theorem oq_X2_workOut_191 : cw_ho 34 191 (.aload_n 0) 1 0 0 0 := rfl
theorem oq_X2_workOut_192 : cw_ho 34 192 (.getfield 15) 3 2 1 4 := rfl
theorem oq_X2_workOut_195 : cw_ho 34 195 (.iload 7) 2 0 0 0 := rfl
theorem oq_X2_workOut_197 : cw_ho 34 197 (.aload_n 0) 1 0 0 0 := rfl
theorem oq_X2_workOut_198 : cw_ho 34 198 (.iload 5) 2 0 0 0 := rfl
theorem oq_X2_workOut_200 : cw_ho 34 200 (.aload_n 0) 1 0 0 0 := rfl
theorem oq_X2_workOut_201 : cw_ho 34 201 (.getfield 15) 3 2 1 4 := rfl
theorem oq_X2_workOut_204 : cw_ho 34 204 (.iload 7) 2 0 0 0 := rfl
theorem oq_X2_workOut_206 : cw_ho 34 206 (.laload) 1 0 0 0 := rfl
theorem oq_X2_workOut_207 : cw_ho 34 207 (.aload_n 0) 1 0 0 0 := rfl
theorem oq_X2_workOut_208 : cw_ho 34 208 (.getfield 15) 3 2 1 4 := rfl
theorem oq_X2_workOut_211 : cw_ho 34 211 (.iload 7) 2 0 0 0 := rfl
theorem oq_X2_workOut_213 : cw_ho 34 213 (.iconst 1) 1 0 0 0 := rfl
theorem oq_X2_workOut_214 : cw_ho 34 214 (.iadd) 1 0 0 0 := rfl
theorem oq_X2_workOut_215 : cw_ho 34 215 (.laload) 1 0 0 0 := rfl
theorem oq_X2_workOut_216 : cw_ho 34 216 (.invokevirtual 117) 3 36 3 2 := rfl
theorem oq_X2_workOut_219 : cw_ho 34 219 (.lastore) 1 0 0 0 := rfl
theorem oq_X2_workOut_220 : cw_ho 34 220 (.aload_n 0) 1 0 0 0 := rfl
theorem oq_X2_workOut_221 : cw_ho 34 221 (.getfield 89) 3 2 4 2 := rfl
theorem oq_X2_workOut_224 : cw_ho 34 224 (.ifCond .eq 5) 3 0 0 0 := rfl
theorem oq_X2_workOut_227 : cw_ho 34 227 (.lconst 0) 1 0 0 0 := rfl
theorem oq_X2_workOut_228 : cw_ho 34 228 (.lreturn) 1 0 0 0 := rfl
theorem oq_X2_workOut_229 : cw_ho 34 229 (.iload 7) 2 0 0 0 := rfl
theorem oq_X2_workOut_231 : cw_ho 34 231 (.iconst 1) 1 0 0 0 := rfl
theorem oq_X2_workOut_232 : cw_ho 34 232 (.iadd) 1 0 0 0 := rfl
theorem oq_X2_workOut_233 : cw_ho 34 233 (.istore_n 3) 1 0 0 0 := rfl
theorem oq_X2_workOut_234 : cw_ho 34 234 (.iinc 4 1) 3 0 0 0 := rfl
theorem oq_X2_workOut_237 : cw_ho 34 237 (.goto (-197)) 3 0 0 0 := rfl
set_option maxHeartbeats 8000000 in
theorem wo_lp (hb : cw_sh[b]? = some 4) (hRC : cw_sh[RC]? = some 29) (hRA : cw_sh[RA]? = some 30) (hRB : cw_sh[RB]? = some 31) (pC : cw_at h0 b 1 = some (cv_r RC)) (pA : cw_at h0 b 4 = some (cv_r RA)) (pB : cw_at h0 b 5 = some (cv_r RB)) (hlaw : 0 ≤ law.toInt ∧ law.toInt < 4) (hA : ri_at h0 RA law.toInt.toNat = a) (hB : ri_at h0 RB law.toInt.toNat = ((a + cs.length : Nat) : Int)) (h64 : a + cs.length ≤ 64) (hC : ∀ m, m < cs.length → ri_at h0 RC (a + m) = cs.getD m 0) (hcb : ∀ c, c ∈ cs → 0 ≤ c ∧ c ≤ 20012 ∧ (c < 10010 ∨ 20000 ≤ c)) (hN : ∀ j, j < 10 → rl_at h0 56 j = N j) (hNb : ∀ j, zbb (N j)) (h1 : ∀ S, zev N cs [] = some S → S.length = 1) (hQ : ∀ (y : Int64) h', cw_T G h' → zE h0 h' → (ri_at h' 55 4 = 0 ∧ zLV N cs = some y.toInt ∨ ri_at h' 55 4 = 1 ∧ zLV N cs = none) → Q (some (cv_l y), h')) : ∀ (rest pre S : List Int) (I TP : Int32) (h : cv_H) (L : cv_L), pre ++ rest = cs → zev N pre [] = some S → zdp S.length rest → zbS S → I.toInt = ((a + pre.length : Nat) : Int) → TP.toInt = S.length → S.length ≤ pre.length → cw_T G h → zE h0 h → ri_at h 55 4 = 0 → zrowL h 57 S → cv_get L 0 = some (cv_r 55) → cv_get L 1 = some (cv_r b) → cv_get L 2 = some (cv_i law) → cv_get L 3 = some (cv_i TP) → cv_get L 4 = some (cv_i I) → cw_X X 34 Q 40 L [] h := by
  intro rest
  induction rest with
  | nil =>
    intro pre S I TP h L hpre hev hdp hbS hI hTP hSl hT hE he hr g0 g1 g2 g3 g4
    rw [List.append_nil] at hpre
    rw [hpre] at hev hI hSl
    have hl1 := h1 S hev
    obtain ⟨w, rfl⟩ := List.length_eq_one_iff.mp hl1
    refine ex_ilw oq_X2_workOut_40 g4 ?_
    refine ex_bi oq_X2_workOut_42 (m := 64) (by decide) (fun x101 hx101 => ?_)
    refine ex_if oq_X2_workOut_44 (t := 240) rfl rfl (fun (c102 : x101.toInt ≤ I.toInt) => ?_) (fun (c102 : ¬ (x101.toInt ≤ I.toInt)) => ?_)
    · exact wo_end hQ hT hE he hr hev g0
    · refine ex_ilw oq_X2_workOut_47 g4 ?_
      refine ex_al oq_X2_workOut_49 g1 ?_
      refine ex_gf oq_X2_workOut_50 hT (k := b) (d := 4) hb rfl ((zE_at hE (cw_kne (k := b) (d := 4) (k' := 55) (d' := 2) hb rfl (by decide)) (cw_kne (k := b) (d := 4) (k' := 57) (d' := 18) hb rfl (by decide))).trans pB) ?_
      refine ex_il oq_X2_workOut_53 g2 ?_
      refine ex_ia1 oq_X2_workOut_54 hT (k := RB) (d := 31) (j := law.toInt.toNat) hRB rfl (by omega) (by omega) (fun x103 hx103 lx103 ux103 => ?_)
      have hx103 : x103.toInt = ((a + cs.length : Nat) : Int) := hx103.symm.trans ((zE_ri hE (cw_kne (k := RB) (d := 31) (k' := 55) (d' := 2) hRB rfl (by decide)) (cw_kne (k := RB) (d := 31) (k' := 57) (d' := 18) hRB rfl (by decide))).trans (hB))
      refine ex_if oq_X2_workOut_55 (t := 240) rfl rfl (fun (c104 : x103.toInt ≤ I.toInt) => ?_) (fun (c104 : ¬ (x103.toInt ≤ I.toInt)) => ?_)
      · exact wo_end hQ hT hE he hr hev g0
      · exfalso; omega
  | cons c rest ih =>
    intro pre S I TP h L hpre hev hdp hbS hI hTP hSl hT hE he hr g0 g1 g2 g3 g4
    have hpl : pre.length < cs.length := by rw [← hpre, List.length_append, List.length_cons]; omega
    have hcm : cs.getD pre.length 0 = c := by rw [← hpre]; exact getD_mid
    have hc0 := hcb c (by rw [← hpre]; exact List.mem_append_right _ (List.mem_cons_self ..))
    have hdp1 := hdp.1
    refine ex_ilw oq_X2_workOut_40 g4 ?_
    refine ex_bi oq_X2_workOut_42 (m := 64) (by decide) (fun x101 hx101 => ?_)
    refine ex_if oq_X2_workOut_44 (t := 240) rfl rfl (fun (c102 : x101.toInt ≤ I.toInt) => ?_) (fun (c102 : ¬ (x101.toInt ≤ I.toInt)) => ?_)
    · exfalso; omega
    · refine ex_ilw oq_X2_workOut_47 g4 ?_
      refine ex_al oq_X2_workOut_49 g1 ?_
      refine ex_gf oq_X2_workOut_50 hT (k := b) (d := 4) hb rfl ((zE_at hE (cw_kne (k := b) (d := 4) (k' := 55) (d' := 2) hb rfl (by decide)) (cw_kne (k := b) (d := 4) (k' := 57) (d' := 18) hb rfl (by decide))).trans pB) ?_
      refine ex_il oq_X2_workOut_53 g2 ?_
      refine ex_ia1 oq_X2_workOut_54 hT (k := RB) (d := 31) (j := law.toInt.toNat) hRB rfl (by omega) (by omega) (fun x103 hx103 lx103 ux103 => ?_)
      have hx103 : x103.toInt = ((a + cs.length : Nat) : Int) := hx103.symm.trans ((zE_ri hE (cw_kne (k := RB) (d := 31) (k' := 55) (d' := 2) hRB rfl (by decide)) (cw_kne (k := RB) (d := 31) (k' := 57) (d' := 18) hRB rfl (by decide))).trans (hB))
      refine ex_if oq_X2_workOut_55 (t := 240) rfl rfl (fun (c104 : x103.toInt ≤ I.toInt) => ?_) (fun (c104 : ¬ (x103.toInt ≤ I.toInt)) => ?_)
      · exfalso; omega
      · refine ex_ilw oq_X2_workOut_58 g4 ?_
        refine ex_if0 oq_X2_workOut_60 (t := 73) rfl rfl (fun (c105 : I.toInt < 0) => ?_) (fun (c105 : ¬ (I.toInt < 0)) => ?_)
        · exfalso; omega
        · refine ex_al oq_X2_workOut_63 g1 ?_
          refine ex_gf oq_X2_workOut_64 hT (k := b) (d := 4) hb rfl ((zE_at hE (cw_kne (k := b) (d := 4) (k' := 55) (d' := 2) hb rfl (by decide)) (cw_kne (k := b) (d := 4) (k' := 57) (d' := 18) hb rfl (by decide))).trans pC) ?_
          refine ex_ilw oq_X2_workOut_67 g4 ?_
          refine ex_ia1 oq_X2_workOut_69 hT (k := RC) (d := 29) (j := a + pre.length) hRC rfl (by omega) (by omega) (fun x106 hx106 lx106 ux106 => ?_)
          have hx106 : x106.toInt = c := hx106.symm.trans ((zE_ri hE (cw_kne (k := RC) (d := 29) (k' := 55) (d' := 2) hRC rfl (by decide)) (cw_kne (k := RC) (d := 29) (k' := 57) (d' := 18) hRC rfl (by decide))).trans ((hC _ (by omega)).trans hcm))
          refine ex_go oq_X2_workOut_70 (t := 74) rfl rfl ?_
          refine ex_iswA oq_X2_workOut_74 (fun L107 gL107_5 kL107 => ?_)
          have gL107_0 : cv_get L107 0 = some (cv_r 55) := kL107 0 _ (by decide) (fun q => absurd q (by decide)) g0
          have gL107_1 : cv_get L107 1 = some (cv_r b) := kL107 1 _ (by decide) (fun q => absurd q (by decide)) g1
          have gL107_2 : cv_get L107 2 = some (cv_i law) := kL107 2 _ (by decide) (fun q => absurd q (by decide)) g2
          have gL107_3 : cv_get L107 3 = some (cv_i TP) := kL107 3 _ (by decide) (fun q => absurd q (by decide)) g3
          have gL107_4 : cv_get L107 4 = some (cv_i I) := kL107 4 _ (by decide) (fun _ => rfl) g4
          refine ex_ilw oq_X2_workOut_76 gL107_5 ?_
          refine ex_si oq_X2_workOut_78 (m := 20000) (by decide) (fun x108 hx108 => ?_)
          refine ex_if oq_X2_workOut_81 (t := 88) rfl rfl (fun (c109 : x108.toInt ≤ x106.toInt) => ?_) (fun (c109 : ¬ (x108.toInt ≤ x106.toInt)) => ?_)
          · refine ex_ilw oq_X2_workOut_88 gL107_5 ?_
            refine ex_si oq_X2_workOut_90 (m := 20002) (by decide) (fun x110 hx110 => ?_)
            refine ex_if oq_X2_workOut_93 (t := 100) rfl rfl (fun (c111 : ¬ x106.toInt = x110.toInt) => ?_) (fun (c111 : ¬ (¬ x106.toInt = x110.toInt)) => ?_)
            · have hc2 : ¬ c = 20002 := by omega
              have hk0 := (zka_v (c := c)).2.2 (by omega) hc2
              obtain ⟨b1, a1, S1, rfl⟩ := zls2 (l := S) (by omega)
              simp only [List.length_cons] at hTP hSl hdp
              refine ex_ic oq_X2_workOut_100 (m := 2) (by decide) (fun x112 hx112 => ?_)
              refine ex_iswA oq_X2_workOut_101 (fun L113 gL113_6 kL113 => ?_)
              have gL113_5 : cv_get L113 5 = some (cv_i x106) := kL113 5 _ (by decide) (fun _ => rfl) gL107_5
              have gL113_0 : cv_get L113 0 = some (cv_r 55) := kL113 0 _ (by decide) (fun q => absurd q (by decide)) gL107_0
              have gL113_1 : cv_get L113 1 = some (cv_r b) := kL113 1 _ (by decide) (fun q => absurd q (by decide)) gL107_1
              have gL113_2 : cv_get L113 2 = some (cv_i law) := kL113 2 _ (by decide) (fun q => absurd q (by decide)) gL107_2
              have gL113_3 : cv_get L113 3 = some (cv_i TP) := kL113 3 _ (by decide) (fun q => absurd q (by decide)) gL107_3
              have gL113_4 : cv_get L113 4 = some (cv_i I) := kL113 4 _ (by decide) (fun q => absurd q (by decide)) gL107_4
              refine ex_il oq_X2_workOut_103 gL113_3 ?_
              refine ex_ilw oq_X2_workOut_104 gL113_6 ?_
              refine ex_sub oq_X2_workOut_106 (by omega) (fun x114 hx114 => ?_)
              refine ex_iswA oq_X2_workOut_107 (fun L115 gL115_7 kL115 => ?_)
              have gL115_6 : cv_get L115 6 = some (cv_i x112) := kL115 6 _ (by decide) (fun _ => rfl) gL113_6
              have gL115_5 : cv_get L115 5 = some (cv_i x106) := kL115 5 _ (by decide) (fun q => absurd q (by decide)) gL113_5
              have gL115_0 : cv_get L115 0 = some (cv_r 55) := kL115 0 _ (by decide) (fun q => absurd q (by decide)) gL113_0
              have gL115_1 : cv_get L115 1 = some (cv_r b) := kL115 1 _ (by decide) (fun q => absurd q (by decide)) gL113_1
              have gL115_2 : cv_get L115 2 = some (cv_i law) := kL115 2 _ (by decide) (fun q => absurd q (by decide)) gL113_2
              have gL115_3 : cv_get L115 3 = some (cv_i TP) := kL115 3 _ (by decide) (fun q => absurd q (by decide)) gL113_3
              have gL115_4 : cv_get L115 4 = some (cv_i I) := kL115 4 _ (by decide) (fun q => absurd q (by decide)) gL113_4
              refine ex_ilw oq_X2_workOut_109 gL115_7 ?_
              refine ex_if0 oq_X2_workOut_111 (t := 121) rfl rfl (fun (c116 : x114.toInt < 0) => ?_) (fun (c116 : ¬ (x114.toInt < 0)) => ?_)
              · exfalso; omega
              · refine ex_ilw oq_X2_workOut_114 gL115_7 ?_
                refine ex_bi oq_X2_workOut_116 (m := 64) (by decide) (fun x117 hx117 => ?_)
                refine ex_if oq_X2_workOut_118 (t := 128) rfl rfl (fun (c118 : x114.toInt < x117.toInt) => ?_) (fun (c118 : ¬ (x114.toInt < x117.toInt)) => ?_)
                · refine ex_ilw oq_X2_workOut_128 gL115_6 ?_
                  refine ex_if0 oq_X2_workOut_130 (t := 149) rfl rfl (fun (c119 : ¬ x112.toInt = 0) => ?_) (fun (c119 : ¬ (¬ x112.toInt = 0)) => ?_)
                  · refine ex_ilw oq_X2_workOut_149 gL115_6 ?_
                    refine ex_ic oq_X2_workOut_151 (m := 1) (by decide) (fun x120 hx120 => ?_)
                    refine ex_if oq_X2_workOut_152 (t := 182) rfl rfl (fun (c121 : ¬ x112.toInt = x120.toInt) => ?_) (fun (c121 : ¬ (¬ x112.toInt = x120.toInt)) => ?_)
                    · refine ex_ilw oq_X2_workOut_182 gL115_7 ?_
                      refine ex_ic oq_X2_workOut_184 (m := 1) (by decide) (fun x122 hx122 => ?_)
                      refine ex_add oq_X2_workOut_185 (by omega) (fun x123 hx123 => ?_)
                      refine ex_bi oq_X2_workOut_186 (m := 64) (by decide) (fun x124 hx124 => ?_)
                      refine ex_if oq_X2_workOut_188 (t := 220) rfl rfl (fun (c125 : x124.toInt ≤ x123.toInt) => ?_) (fun (c125 : ¬ (x124.toInt ≤ x123.toInt)) => ?_)
                      · exfalso; omega
                      · refine ex_al oq_X2_workOut_191 gL115_0 ?_
                        refine ex_gf oq_X2_workOut_192 hT (k := 55) (d := 2) rfl rfl (ri_ref (k := 55) (k' := 57) (d := 2) (f := 1) hT rfl rfl rfl (by decide) (ri_uniq (by decide +kernel))) ?_
                        refine ex_ilw oq_X2_workOut_195 gL115_7 ?_
                        refine ex_al oq_X2_workOut_197 gL115_0 ?_
                        refine ex_ilw oq_X2_workOut_198 gL115_5 ?_
                        refine ex_al oq_X2_workOut_200 gL115_0 ?_
                        refine ex_gf oq_X2_workOut_201 hT (k := 55) (d := 2) rfl rfl (ri_ref (k := 55) (k' := 57) (d := 2) (f := 1) hT rfl rfl rfl (by decide) (ri_uniq (by decide +kernel))) ?_
                        refine ex_ilw oq_X2_workOut_204 gL115_7 ?_
                        refine ex_laV oq_X2_workOut_206 hT (k := 57) (d := 18) (j := S1.length) rfl rfl (by omega) (by omega) (fun x126 hx126 => ?_)
                        replace hx126 : x126.toInt = a1 := hx126.symm.trans (zrowL_top (zrowL_tail hr))
                        refine ex_al oq_X2_workOut_207 gL115_0 ?_
                        refine ex_gf oq_X2_workOut_208 hT (k := 55) (d := 2) rfl rfl (ri_ref (k := 55) (k' := 57) (d := 2) (f := 1) hT rfl rfl rfl (by decide) (ri_uniq (by decide +kernel))) ?_
                        refine ex_ilw oq_X2_workOut_211 gL115_7 ?_
                        refine ex_ic oq_X2_workOut_213 (m := 1) (by decide) (fun x127 hx127 => ?_)
                        refine ex_add oq_X2_workOut_214 (by omega) (fun x128 hx128 => ?_)
                        refine ex_laV oq_X2_workOut_215 hT (k := 57) (d := 18) (j := S1.length + 1) rfl rfl (by omega) (by omega) (fun x129 hx129 => ?_)
                        replace hx129 : x129.toInt = b1 := hx129.symm.trans ((show rl_at _ 57 (a1 :: S1).length = b1 from zrowL_top hr))
                        refine ex_cv oq_X2_workOut_216 (by decide) hT (k := 55) (d := 2) (as := [cv_i x106, cv_l x126, cv_l x129]) (stk := [cv_i x114, cv_r 57]) rfl rfl rfl rfl rfl rfl ⟨rfl, rfl⟩ (R := fun o => ∃ (y : Int64) (hb : cv_H), o = (some (cv_l y), hb) ∧ cw_T G hb ∧ zE5 h hb ∧ (ri_at hb 55 4 = 0 ∧ zjn (zri x106.toInt) x126.toInt x129.toInt = some y.toInt ∨ ri_at hb 55 4 = 1 ∧ zjn (zri x106.toInt) x126.toInt x129.toInt = none)) (cl_join hT (by omega) (by omega) (by rw [hx126]; exact hbS a1 (List.mem_cons_of_mem _ (List.mem_cons_self ..))) (by rw [hx129]; exact hbS b1 (List.mem_cons_self ..)) he (fun y hb b1 b2 b3 => ⟨y, hb, rfl, b1, b2, b3⟩)) (fun o ho => ?_)
                        obtain ⟨x130, h131, rfl, Th131, zh131, dx130⟩ := ho
                        show cw_X _ _ _ _ _ [cv_l x130, cv_i x114, cv_r 57] h131
                        have Eh131 := zE_5 hE zh131
                        rw [show x106.toInt = c from by omega, hx126, hx129] at dx130
                        have rh131 : zrowL h131 57 (b1 :: a1 :: S1) := zrowL_eq hr (zh131.1 57 (by decide))
                        obtain ⟨eh131, heh131⟩ : ∃ e, ri_at h131 55 4 = e := ⟨_, rfl⟩
                        rw [heh131] at dx130
                        refine ex_lw oq_X2_workOut_219 Th131 (k := 57) (d := 18) (j := S1.length) rfl rfl (by omega) (by omega) (fun h132 Th132 wh132 => ?_)
                        have eh132_55_4 : ri_at h132 55 4 = eh131 := (ri_ne wh132 (.inl (by decide))).trans heh131
                        have Eh132 := zE_w Eh131 wh132
                        refine ex_al oq_X2_workOut_220 gL115_0 ?_
                        obtain ⟨x133, ax133, rx133, lx133, ux133⟩ := ri_fld (k := 55) (d := 2) (f := 4) Th132 rfl rfl rfl
                        try dsimp only at lx133 ux133
                        refine ex_gf oq_X2_workOut_221 Th132 (k := 55) (d := 2) rfl rfl ax133 ?_
                        have rx133 := (rx133.symm.trans eh132_55_4 : x133.toInt = eh131)
                        refine ex_if0 oq_X2_workOut_224 (t := 229) rfl rfl (fun (c134 : x133.toInt = 0) => ?_) (fun (c134 : ¬ (x133.toInt = 0)) => ?_)
                        · refine ex_ilw oq_X2_workOut_229 gL115_7 ?_
                          refine ex_ic oq_X2_workOut_231 (m := 1) (by decide) (fun x135 hx135 => ?_)
                          refine ex_add oq_X2_workOut_232 (by omega) (fun x136 hx136 => ?_)
                          refine ex_isA oq_X2_workOut_233 (fun L137 gL137_3 kL137 => ?_)
                          have gL137_7 : cv_get L137 7 = some (cv_i x114) := kL137 7 _ (by decide) (fun q => absurd q (by decide)) gL115_7
                          have gL137_6 : cv_get L137 6 = some (cv_i x112) := kL137 6 _ (by decide) (fun q => absurd q (by decide)) gL115_6
                          have gL137_5 : cv_get L137 5 = some (cv_i x106) := kL137 5 _ (by decide) (fun q => absurd q (by decide)) gL115_5
                          have gL137_0 : cv_get L137 0 = some (cv_r 55) := kL137 0 _ (by decide) (fun q => absurd q (by decide)) gL115_0
                          have gL137_1 : cv_get L137 1 = some (cv_r b) := kL137 1 _ (by decide) (fun q => absurd q (by decide)) gL115_1
                          have gL137_2 : cv_get L137 2 = some (cv_i law) := kL137 2 _ (by decide) (fun _ => rfl) gL115_2
                          have gL137_4 : cv_get L137 4 = some (cv_i I) := kL137 4 _ (by decide) (fun q => absurd q (by decide)) gL115_4
                          refine ex_incA oq_X2_workOut_234 (v := I) (m := 1) gL137_4 (by decide) (by omega) (fun L139 x138 hx138 gL139_4 kL139 => ?_)
                          have gL139_3 : cv_get L139 3 = some (cv_i x136) := kL139 3 _ (by decide) (fun _ => rfl) gL137_3
                          have gL139_7 : cv_get L139 7 = some (cv_i x114) := kL139 7 _ (by decide) (fun q => absurd q (by decide)) gL137_7
                          have gL139_6 : cv_get L139 6 = some (cv_i x112) := kL139 6 _ (by decide) (fun q => absurd q (by decide)) gL137_6
                          have gL139_5 : cv_get L139 5 = some (cv_i x106) := kL139 5 _ (by decide) (fun q => absurd q (by decide)) gL137_5
                          have gL139_0 : cv_get L139 0 = some (cv_r 55) := kL139 0 _ (by decide) (fun q => absurd q (by decide)) gL137_0
                          have gL139_1 : cv_get L139 1 = some (cv_r b) := kL139 1 _ (by decide) (fun q => absurd q (by decide)) gL137_1
                          have gL139_2 : cv_get L139 2 = some (cv_i law) := kL139 2 _ (by decide) (fun q => absurd q (by decide)) gL137_2
                          refine ex_go oq_X2_workOut_237 (t := 40) rfl rfl ?_
                          rcases dx130 with ⟨d1, d2⟩ | ⟨d1, d2⟩
                          · have ee : zE1 N c (b1 :: a1 :: S1) = some (x130.toInt :: S1) := by rw [zE1_2 (by omega) hc2, d2]; rfl
                            have el := (zE1_l ee).1
                            exact ih (pre ++ [c]) _ x138 x136 h132 L139 (by rw [List.append_assoc]; exact hpre) ((zev_ap hev).trans ee) (by rw [show (x130.toInt :: S1).length = _ + 1 - zka c from Nat.eq_sub_of_add_eq el]; exact hdp.2) (zE1_b hNb hc0.1 hbS ee) (by rw [List.length_append, List.length_singleton]; omega) (by (try simp only [List.length_cons] at *); omega) (by rw [List.length_append, List.length_singleton]; (try simp only [List.length_cons] at *); omega) Th132 Eh132 (by omega) (zrowL_push (zrowL_tail (zrowL_tail rh131)) wh132 rfl) gL139_0 gL139_1 gL139_2 gL139_3 gL139_4
                          · exfalso; omega
                        · refine ex_lc oq_X2_workOut_227 (m := 0) (by decide) (fun x140 hx140 => ?_)
                          rcases dx130 with ⟨d1, d2⟩ | ⟨d1, d2⟩
                          · exfalso; omega
                          · have ee : zev N (pre ++ [c]) [] = none := by rw [zev_ap hev, zE1_2 (by omega) hc2, d2]; rfl
                            have e2 : zev N cs [] = none := by rw [← hpre, List.append_cons]; exact zev_no ee
                            exact ex_retl oq_X2_workOut_228 rfl (hQ x140 h132 Th132 Eh132 (.inr ⟨by omega, by unfold zLV; rw [e2]⟩))
                    · exfalso; omega
                  · exfalso; omega
                · exfalso; omega
            · have hc2 : c = 20002 := by omega
              have hk0 := (zka_v (c := c)).2.1 hc2
              obtain ⟨a1, S1, rfl⟩ := zls1 (l := S) (by omega)
              simp only [List.length_cons] at hTP hSl hdp
              refine ex_ic oq_X2_workOut_96 (m := 1) (by decide) (fun x141 hx141 => ?_)
              refine ex_go oq_X2_workOut_97 (t := 101) rfl rfl ?_
              refine ex_iswA oq_X2_workOut_101 (fun L142 gL142_6 kL142 => ?_)
              have gL142_5 : cv_get L142 5 = some (cv_i x106) := kL142 5 _ (by decide) (fun _ => rfl) gL107_5
              have gL142_0 : cv_get L142 0 = some (cv_r 55) := kL142 0 _ (by decide) (fun q => absurd q (by decide)) gL107_0
              have gL142_1 : cv_get L142 1 = some (cv_r b) := kL142 1 _ (by decide) (fun q => absurd q (by decide)) gL107_1
              have gL142_2 : cv_get L142 2 = some (cv_i law) := kL142 2 _ (by decide) (fun q => absurd q (by decide)) gL107_2
              have gL142_3 : cv_get L142 3 = some (cv_i TP) := kL142 3 _ (by decide) (fun q => absurd q (by decide)) gL107_3
              have gL142_4 : cv_get L142 4 = some (cv_i I) := kL142 4 _ (by decide) (fun q => absurd q (by decide)) gL107_4
              refine ex_il oq_X2_workOut_103 gL142_3 ?_
              refine ex_ilw oq_X2_workOut_104 gL142_6 ?_
              refine ex_sub oq_X2_workOut_106 (by omega) (fun x143 hx143 => ?_)
              refine ex_iswA oq_X2_workOut_107 (fun L144 gL144_7 kL144 => ?_)
              have gL144_6 : cv_get L144 6 = some (cv_i x141) := kL144 6 _ (by decide) (fun _ => rfl) gL142_6
              have gL144_5 : cv_get L144 5 = some (cv_i x106) := kL144 5 _ (by decide) (fun q => absurd q (by decide)) gL142_5
              have gL144_0 : cv_get L144 0 = some (cv_r 55) := kL144 0 _ (by decide) (fun q => absurd q (by decide)) gL142_0
              have gL144_1 : cv_get L144 1 = some (cv_r b) := kL144 1 _ (by decide) (fun q => absurd q (by decide)) gL142_1
              have gL144_2 : cv_get L144 2 = some (cv_i law) := kL144 2 _ (by decide) (fun q => absurd q (by decide)) gL142_2
              have gL144_3 : cv_get L144 3 = some (cv_i TP) := kL144 3 _ (by decide) (fun q => absurd q (by decide)) gL142_3
              have gL144_4 : cv_get L144 4 = some (cv_i I) := kL144 4 _ (by decide) (fun q => absurd q (by decide)) gL142_4
              refine ex_ilw oq_X2_workOut_109 gL144_7 ?_
              refine ex_if0 oq_X2_workOut_111 (t := 121) rfl rfl (fun (c145 : x143.toInt < 0) => ?_) (fun (c145 : ¬ (x143.toInt < 0)) => ?_)
              · exfalso; omega
              · refine ex_ilw oq_X2_workOut_114 gL144_7 ?_
                refine ex_bi oq_X2_workOut_116 (m := 64) (by decide) (fun x146 hx146 => ?_)
                refine ex_if oq_X2_workOut_118 (t := 128) rfl rfl (fun (c147 : x143.toInt < x146.toInt) => ?_) (fun (c147 : ¬ (x143.toInt < x146.toInt)) => ?_)
                · refine ex_ilw oq_X2_workOut_128 gL144_6 ?_
                  refine ex_if0 oq_X2_workOut_130 (t := 149) rfl rfl (fun (c148 : ¬ x141.toInt = 0) => ?_) (fun (c148 : ¬ (¬ x141.toInt = 0)) => ?_)
                  · refine ex_ilw oq_X2_workOut_149 gL144_6 ?_
                    refine ex_ic oq_X2_workOut_151 (m := 1) (by decide) (fun x149 hx149 => ?_)
                    refine ex_if oq_X2_workOut_152 (t := 182) rfl rfl (fun (c150 : ¬ x141.toInt = x149.toInt) => ?_) (fun (c150 : ¬ (¬ x141.toInt = x149.toInt)) => ?_)
                    · exfalso; omega
                    · refine ex_al oq_X2_workOut_155 gL144_0 ?_
                      refine ex_gf oq_X2_workOut_156 hT (k := 55) (d := 2) rfl rfl (ri_ref (k := 55) (k' := 57) (d := 2) (f := 1) hT rfl rfl rfl (by decide) (ri_uniq (by decide +kernel))) ?_
                      refine ex_ilw oq_X2_workOut_159 gL144_7 ?_
                      refine ex_al oq_X2_workOut_161 gL144_0 ?_
                      refine ex_gf oq_X2_workOut_162 hT (k := 55) (d := 2) rfl rfl (ri_ref (k := 55) (k' := 57) (d := 2) (f := 1) hT rfl rfl rfl (by decide) (ri_uniq (by decide +kernel))) ?_
                      refine ex_ilw oq_X2_workOut_165 gL144_7 ?_
                      refine ex_laV oq_X2_workOut_167 hT (k := 57) (d := 18) (j := S1.length) rfl rfl (by omega) (by omega) (fun x151 hx151 => ?_)
                      replace hx151 : x151.toInt = a1 := hx151.symm.trans (zrowL_top hr)
                      refine ex_lc oq_X2_workOut_168 (m := 0) (by decide) (fun x152 hx152 => ?_)
                      refine ex_lcmpV oq_X2_workOut_169 (fun x153 hx153 => ?_)
                      refine ex_if0 oq_X2_workOut_170 (t := 177) rfl rfl (fun (c154 : ¬ x153.toInt = 0) => ?_) (fun (c154 : ¬ (¬ x153.toInt = 0)) => ?_)
                      · refine ex_lc oq_X2_workOut_177 (m := 0) (by decide) (fun x155 hx155 => ?_)
                        refine ex_lw oq_X2_workOut_178 hT (k := 57) (d := 18) (j := S1.length) rfl rfl (by omega) (by omega) (fun h156 Th156 wh156 => ?_)
                        have eh156_55_4 : ri_at h156 55 4 = (0 : Int) := (ri_ne wh156 (.inl (by decide))).trans he
                        have Eh156 := zE_w hE wh156
                        refine ex_go oq_X2_workOut_179 (t := 220) rfl rfl ?_
                        refine ex_al oq_X2_workOut_220 gL144_0 ?_
                        obtain ⟨x157, ax157, rx157, lx157, ux157⟩ := ri_fld (k := 55) (d := 2) (f := 4) Th156 rfl rfl rfl
                        try dsimp only at lx157 ux157
                        refine ex_gf oq_X2_workOut_221 Th156 (k := 55) (d := 2) rfl rfl ax157 ?_
                        have rx157 := (rx157.symm.trans eh156_55_4 : x157.toInt = (0 : Int))
                        refine ex_if0 oq_X2_workOut_224 (t := 229) rfl rfl (fun (c158 : x157.toInt = 0) => ?_) (fun (c158 : ¬ (x157.toInt = 0)) => ?_)
                        · refine ex_ilw oq_X2_workOut_229 gL144_7 ?_
                          refine ex_ic oq_X2_workOut_231 (m := 1) (by decide) (fun x159 hx159 => ?_)
                          refine ex_add oq_X2_workOut_232 (by omega) (fun x160 hx160 => ?_)
                          refine ex_isA oq_X2_workOut_233 (fun L161 gL161_3 kL161 => ?_)
                          have gL161_7 : cv_get L161 7 = some (cv_i x143) := kL161 7 _ (by decide) (fun q => absurd q (by decide)) gL144_7
                          have gL161_6 : cv_get L161 6 = some (cv_i x141) := kL161 6 _ (by decide) (fun q => absurd q (by decide)) gL144_6
                          have gL161_5 : cv_get L161 5 = some (cv_i x106) := kL161 5 _ (by decide) (fun q => absurd q (by decide)) gL144_5
                          have gL161_0 : cv_get L161 0 = some (cv_r 55) := kL161 0 _ (by decide) (fun q => absurd q (by decide)) gL144_0
                          have gL161_1 : cv_get L161 1 = some (cv_r b) := kL161 1 _ (by decide) (fun q => absurd q (by decide)) gL144_1
                          have gL161_2 : cv_get L161 2 = some (cv_i law) := kL161 2 _ (by decide) (fun _ => rfl) gL144_2
                          have gL161_4 : cv_get L161 4 = some (cv_i I) := kL161 4 _ (by decide) (fun q => absurd q (by decide)) gL144_4
                          refine ex_incA oq_X2_workOut_234 (v := I) (m := 1) gL161_4 (by decide) (by omega) (fun L163 x162 hx162 gL163_4 kL163 => ?_)
                          have gL163_3 : cv_get L163 3 = some (cv_i x160) := kL163 3 _ (by decide) (fun _ => rfl) gL161_3
                          have gL163_7 : cv_get L163 7 = some (cv_i x143) := kL163 7 _ (by decide) (fun q => absurd q (by decide)) gL161_7
                          have gL163_6 : cv_get L163 6 = some (cv_i x141) := kL163 6 _ (by decide) (fun q => absurd q (by decide)) gL161_6
                          have gL163_5 : cv_get L163 5 = some (cv_i x106) := kL163 5 _ (by decide) (fun q => absurd q (by decide)) gL161_5
                          have gL163_0 : cv_get L163 0 = some (cv_r 55) := kL163 0 _ (by decide) (fun q => absurd q (by decide)) gL161_0
                          have gL163_1 : cv_get L163 1 = some (cv_r b) := kL163 1 _ (by decide) (fun q => absurd q (by decide)) gL161_1
                          have gL163_2 : cv_get L163 2 = some (cv_i law) := kL163 2 _ (by decide) (fun q => absurd q (by decide)) gL161_2
                          refine ex_go oq_X2_workOut_237 (t := 40) rfl rfl ?_
                          have ee : zE1 N c (a1 :: S1) = some (x155.toInt :: S1) := by rw [hc2, zE1_1]; exact congrArg some (congrArg (· :: S1) (by split <;> omega))
                          have el := (zE1_l ee).1
                          exact ih (pre ++ [c]) _ x162 x160 h156 L163 (by rw [List.append_assoc]; exact hpre) ((zev_ap hev).trans ee) (by rw [show (x155.toInt :: S1).length = _ + 1 - zka c from Nat.eq_sub_of_add_eq el]; exact hdp.2) (zE1_b hNb hc0.1 hbS ee) (by rw [List.length_append, List.length_singleton]; omega) (by (try simp only [List.length_cons] at *); omega) (by rw [List.length_append, List.length_singleton]; (try simp only [List.length_cons] at *); omega) Th156 Eh156 eh156_55_4 (zrowL_push (zrowL_tail hr) wh156 rfl) gL163_0 gL163_1 gL163_2 gL163_3 gL163_4
                        · refine ex_lc oq_X2_workOut_227 (m := 0) (by decide) (fun x164 hx164 => ?_)
                          exfalso; omega
                      · refine ex_lc oq_X2_workOut_173 (m := 1) (by decide) (fun x165 hx165 => ?_)
                        refine ex_go oq_X2_workOut_174 (t := 178) rfl rfl ?_
                        refine ex_lw oq_X2_workOut_178 hT (k := 57) (d := 18) (j := S1.length) rfl rfl (by omega) (by omega) (fun h166 Th166 wh166 => ?_)
                        have eh166_55_4 : ri_at h166 55 4 = (0 : Int) := (ri_ne wh166 (.inl (by decide))).trans he
                        have Eh166 := zE_w hE wh166
                        refine ex_go oq_X2_workOut_179 (t := 220) rfl rfl ?_
                        refine ex_al oq_X2_workOut_220 gL144_0 ?_
                        obtain ⟨x167, ax167, rx167, lx167, ux167⟩ := ri_fld (k := 55) (d := 2) (f := 4) Th166 rfl rfl rfl
                        try dsimp only at lx167 ux167
                        refine ex_gf oq_X2_workOut_221 Th166 (k := 55) (d := 2) rfl rfl ax167 ?_
                        have rx167 := (rx167.symm.trans eh166_55_4 : x167.toInt = (0 : Int))
                        refine ex_if0 oq_X2_workOut_224 (t := 229) rfl rfl (fun (c168 : x167.toInt = 0) => ?_) (fun (c168 : ¬ (x167.toInt = 0)) => ?_)
                        · refine ex_ilw oq_X2_workOut_229 gL144_7 ?_
                          refine ex_ic oq_X2_workOut_231 (m := 1) (by decide) (fun x169 hx169 => ?_)
                          refine ex_add oq_X2_workOut_232 (by omega) (fun x170 hx170 => ?_)
                          refine ex_isA oq_X2_workOut_233 (fun L171 gL171_3 kL171 => ?_)
                          have gL171_7 : cv_get L171 7 = some (cv_i x143) := kL171 7 _ (by decide) (fun q => absurd q (by decide)) gL144_7
                          have gL171_6 : cv_get L171 6 = some (cv_i x141) := kL171 6 _ (by decide) (fun q => absurd q (by decide)) gL144_6
                          have gL171_5 : cv_get L171 5 = some (cv_i x106) := kL171 5 _ (by decide) (fun q => absurd q (by decide)) gL144_5
                          have gL171_0 : cv_get L171 0 = some (cv_r 55) := kL171 0 _ (by decide) (fun q => absurd q (by decide)) gL144_0
                          have gL171_1 : cv_get L171 1 = some (cv_r b) := kL171 1 _ (by decide) (fun q => absurd q (by decide)) gL144_1
                          have gL171_2 : cv_get L171 2 = some (cv_i law) := kL171 2 _ (by decide) (fun _ => rfl) gL144_2
                          have gL171_4 : cv_get L171 4 = some (cv_i I) := kL171 4 _ (by decide) (fun q => absurd q (by decide)) gL144_4
                          refine ex_incA oq_X2_workOut_234 (v := I) (m := 1) gL171_4 (by decide) (by omega) (fun L173 x172 hx172 gL173_4 kL173 => ?_)
                          have gL173_3 : cv_get L173 3 = some (cv_i x170) := kL173 3 _ (by decide) (fun _ => rfl) gL171_3
                          have gL173_7 : cv_get L173 7 = some (cv_i x143) := kL173 7 _ (by decide) (fun q => absurd q (by decide)) gL171_7
                          have gL173_6 : cv_get L173 6 = some (cv_i x141) := kL173 6 _ (by decide) (fun q => absurd q (by decide)) gL171_6
                          have gL173_5 : cv_get L173 5 = some (cv_i x106) := kL173 5 _ (by decide) (fun q => absurd q (by decide)) gL171_5
                          have gL173_0 : cv_get L173 0 = some (cv_r 55) := kL173 0 _ (by decide) (fun q => absurd q (by decide)) gL171_0
                          have gL173_1 : cv_get L173 1 = some (cv_r b) := kL173 1 _ (by decide) (fun q => absurd q (by decide)) gL171_1
                          have gL173_2 : cv_get L173 2 = some (cv_i law) := kL173 2 _ (by decide) (fun q => absurd q (by decide)) gL171_2
                          refine ex_go oq_X2_workOut_237 (t := 40) rfl rfl ?_
                          have ee : zE1 N c (a1 :: S1) = some (x165.toInt :: S1) := by rw [hc2, zE1_1]; exact congrArg some (congrArg (· :: S1) (by split <;> omega))
                          have el := (zE1_l ee).1
                          exact ih (pre ++ [c]) _ x172 x170 h166 L173 (by rw [List.append_assoc]; exact hpre) ((zev_ap hev).trans ee) (by rw [show (x165.toInt :: S1).length = _ + 1 - zka c from Nat.eq_sub_of_add_eq el]; exact hdp.2) (zE1_b hNb hc0.1 hbS ee) (by rw [List.length_append, List.length_singleton]; omega) (by (try simp only [List.length_cons] at *); omega) (by rw [List.length_append, List.length_singleton]; (try simp only [List.length_cons] at *); omega) Th166 Eh166 eh166_55_4 (zrowL_push (zrowL_tail hr) wh166 rfl) gL173_0 gL173_1 gL173_2 gL173_3 gL173_4
                        · refine ex_lc oq_X2_workOut_227 (m := 0) (by decide) (fun x174 hx174 => ?_)
                          exfalso; omega
                  · exfalso; omega
                · exfalso; omega
          · have hk0 := (zka_v (c := c)).1 (by omega)
            refine ex_ic oq_X2_workOut_84 (m := 0) (by decide) (fun x175 hx175 => ?_)
            refine ex_go oq_X2_workOut_85 (t := 101) rfl rfl ?_
            refine ex_iswA oq_X2_workOut_101 (fun L176 gL176_6 kL176 => ?_)
            have gL176_5 : cv_get L176 5 = some (cv_i x106) := kL176 5 _ (by decide) (fun _ => rfl) gL107_5
            have gL176_0 : cv_get L176 0 = some (cv_r 55) := kL176 0 _ (by decide) (fun q => absurd q (by decide)) gL107_0
            have gL176_1 : cv_get L176 1 = some (cv_r b) := kL176 1 _ (by decide) (fun q => absurd q (by decide)) gL107_1
            have gL176_2 : cv_get L176 2 = some (cv_i law) := kL176 2 _ (by decide) (fun q => absurd q (by decide)) gL107_2
            have gL176_3 : cv_get L176 3 = some (cv_i TP) := kL176 3 _ (by decide) (fun q => absurd q (by decide)) gL107_3
            have gL176_4 : cv_get L176 4 = some (cv_i I) := kL176 4 _ (by decide) (fun q => absurd q (by decide)) gL107_4
            refine ex_il oq_X2_workOut_103 gL176_3 ?_
            refine ex_ilw oq_X2_workOut_104 gL176_6 ?_
            refine ex_sub oq_X2_workOut_106 (by omega) (fun x177 hx177 => ?_)
            refine ex_iswA oq_X2_workOut_107 (fun L178 gL178_7 kL178 => ?_)
            have gL178_6 : cv_get L178 6 = some (cv_i x175) := kL178 6 _ (by decide) (fun _ => rfl) gL176_6
            have gL178_5 : cv_get L178 5 = some (cv_i x106) := kL178 5 _ (by decide) (fun q => absurd q (by decide)) gL176_5
            have gL178_0 : cv_get L178 0 = some (cv_r 55) := kL178 0 _ (by decide) (fun q => absurd q (by decide)) gL176_0
            have gL178_1 : cv_get L178 1 = some (cv_r b) := kL178 1 _ (by decide) (fun q => absurd q (by decide)) gL176_1
            have gL178_2 : cv_get L178 2 = some (cv_i law) := kL178 2 _ (by decide) (fun q => absurd q (by decide)) gL176_2
            have gL178_3 : cv_get L178 3 = some (cv_i TP) := kL178 3 _ (by decide) (fun q => absurd q (by decide)) gL176_3
            have gL178_4 : cv_get L178 4 = some (cv_i I) := kL178 4 _ (by decide) (fun q => absurd q (by decide)) gL176_4
            refine ex_ilw oq_X2_workOut_109 gL178_7 ?_
            refine ex_if0 oq_X2_workOut_111 (t := 121) rfl rfl (fun (c179 : x177.toInt < 0) => ?_) (fun (c179 : ¬ (x177.toInt < 0)) => ?_)
            · exfalso; omega
            · refine ex_ilw oq_X2_workOut_114 gL178_7 ?_
              refine ex_bi oq_X2_workOut_116 (m := 64) (by decide) (fun x180 hx180 => ?_)
              refine ex_if oq_X2_workOut_118 (t := 128) rfl rfl (fun (c181 : x177.toInt < x180.toInt) => ?_) (fun (c181 : ¬ (x177.toInt < x180.toInt)) => ?_)
              · refine ex_ilw oq_X2_workOut_128 gL178_6 ?_
                refine ex_if0 oq_X2_workOut_130 (t := 149) rfl rfl (fun (c182 : ¬ x175.toInt = 0) => ?_) (fun (c182 : ¬ (¬ x175.toInt = 0)) => ?_)
                · exfalso; omega
                · refine ex_al oq_X2_workOut_133 gL178_0 ?_
                  refine ex_gf oq_X2_workOut_134 hT (k := 55) (d := 2) rfl rfl (ri_ref (k := 55) (k' := 57) (d := 2) (f := 1) hT rfl rfl rfl (by decide) (ri_uniq (by decide +kernel))) ?_
                  refine ex_ilw oq_X2_workOut_137 gL178_7 ?_
                  refine ex_al oq_X2_workOut_139 gL178_0 ?_
                  refine ex_ilw oq_X2_workOut_140 gL178_5 ?_
                  refine ex_cv oq_X2_workOut_142 (by decide) hT (k := 55) (d := 2) (as := [cv_i x106]) (stk := [cv_i x177, cv_r 57]) rfl rfl rfl rfl rfl rfl ⟨rfl, rfl⟩ (R := fun o => ∃ y : Int64, o = (some (cv_l y), h) ∧ (x106.toInt < 10000 ∧ y.toInt = x106.toInt ∨ 10000 ≤ x106.toInt ∧ y.toInt = N (x106.toInt - 10000).toNat)) (cl_valueOf hT (by omega) (fun j hj => (zE_rl hE (by decide) (by decide)).trans (hN j hj)) (fun y q => ⟨y, rfl, q⟩)) (fun o ho => ?_)
                  obtain ⟨x183, rfl, dx183⟩ := ho
                  show cw_X _ _ _ _ _ [cv_l x183, cv_i x177, cv_r 57] h
                  rw [show x106.toInt = c from by omega] at dx183
                  refine ex_lw oq_X2_workOut_145 hT (k := 57) (d := 18) (j := S.length) rfl rfl (by omega) (by omega) (fun h184 Th184 wh184 => ?_)
                  have eh184_55_4 : ri_at h184 55 4 = (0 : Int) := (ri_ne wh184 (.inl (by decide))).trans he
                  have Eh184 := zE_w hE wh184
                  refine ex_go oq_X2_workOut_146 (t := 220) rfl rfl ?_
                  refine ex_al oq_X2_workOut_220 gL178_0 ?_
                  obtain ⟨x185, ax185, rx185, lx185, ux185⟩ := ri_fld (k := 55) (d := 2) (f := 4) Th184 rfl rfl rfl
                  try dsimp only at lx185 ux185
                  refine ex_gf oq_X2_workOut_221 Th184 (k := 55) (d := 2) rfl rfl ax185 ?_
                  have rx185 := (rx185.symm.trans eh184_55_4 : x185.toInt = (0 : Int))
                  refine ex_if0 oq_X2_workOut_224 (t := 229) rfl rfl (fun (c186 : x185.toInt = 0) => ?_) (fun (c186 : ¬ (x185.toInt = 0)) => ?_)
                  · refine ex_ilw oq_X2_workOut_229 gL178_7 ?_
                    refine ex_ic oq_X2_workOut_231 (m := 1) (by decide) (fun x187 hx187 => ?_)
                    refine ex_add oq_X2_workOut_232 (by omega) (fun x188 hx188 => ?_)
                    refine ex_isA oq_X2_workOut_233 (fun L189 gL189_3 kL189 => ?_)
                    have gL189_7 : cv_get L189 7 = some (cv_i x177) := kL189 7 _ (by decide) (fun q => absurd q (by decide)) gL178_7
                    have gL189_6 : cv_get L189 6 = some (cv_i x175) := kL189 6 _ (by decide) (fun q => absurd q (by decide)) gL178_6
                    have gL189_5 : cv_get L189 5 = some (cv_i x106) := kL189 5 _ (by decide) (fun q => absurd q (by decide)) gL178_5
                    have gL189_0 : cv_get L189 0 = some (cv_r 55) := kL189 0 _ (by decide) (fun q => absurd q (by decide)) gL178_0
                    have gL189_1 : cv_get L189 1 = some (cv_r b) := kL189 1 _ (by decide) (fun q => absurd q (by decide)) gL178_1
                    have gL189_2 : cv_get L189 2 = some (cv_i law) := kL189 2 _ (by decide) (fun _ => rfl) gL178_2
                    have gL189_4 : cv_get L189 4 = some (cv_i I) := kL189 4 _ (by decide) (fun q => absurd q (by decide)) gL178_4
                    refine ex_incA oq_X2_workOut_234 (v := I) (m := 1) gL189_4 (by decide) (by omega) (fun L191 x190 hx190 gL191_4 kL191 => ?_)
                    have gL191_3 : cv_get L191 3 = some (cv_i x188) := kL191 3 _ (by decide) (fun _ => rfl) gL189_3
                    have gL191_7 : cv_get L191 7 = some (cv_i x177) := kL191 7 _ (by decide) (fun q => absurd q (by decide)) gL189_7
                    have gL191_6 : cv_get L191 6 = some (cv_i x175) := kL191 6 _ (by decide) (fun q => absurd q (by decide)) gL189_6
                    have gL191_5 : cv_get L191 5 = some (cv_i x106) := kL191 5 _ (by decide) (fun q => absurd q (by decide)) gL189_5
                    have gL191_0 : cv_get L191 0 = some (cv_r 55) := kL191 0 _ (by decide) (fun q => absurd q (by decide)) gL189_0
                    have gL191_1 : cv_get L191 1 = some (cv_r b) := kL191 1 _ (by decide) (fun q => absurd q (by decide)) gL189_1
                    have gL191_2 : cv_get L191 2 = some (cv_i law) := kL191 2 _ (by decide) (fun q => absurd q (by decide)) gL189_2
                    refine ex_go oq_X2_workOut_237 (t := 40) rfl rfl ?_
                    have ee : zE1 N c (S) = some (x183.toInt :: S) := zE1_0 (by omega) dx183
                    have el := (zE1_l ee).1
                    exact ih (pre ++ [c]) _ x190 x188 h184 L191 (by rw [List.append_assoc]; exact hpre) ((zev_ap hev).trans ee) (by rw [show (x183.toInt :: S).length = _ + 1 - zka c from Nat.eq_sub_of_add_eq el]; exact hdp.2) (zE1_b hNb hc0.1 hbS ee) (by rw [List.length_append, List.length_singleton]; omega) (by (try simp only [List.length_cons] at *); omega) (by rw [List.length_append, List.length_singleton]; (try simp only [List.length_cons] at *); omega) Th184 Eh184 eh184_55_4 (zrowL_push hr wh184 rfl) gL191_0 gL191_1 gL191_2 gL191_3 gL191_4
                  · refine ex_lc oq_X2_workOut_227 (m := 0) (by decide) (fun x192 hx192 => ?_)
                    exfalso; omega
              · exfalso; omega
theorem oq_X2_workOut_0 : cw_ho 34 0 (.aload_n 0) 1 0 0 0 := rfl
theorem oq_X2_workOut_1 : cw_ho 34 1 (.iload_n 2) 1 0 0 0 := rfl
theorem oq_X2_workOut_2 : cw_ho 34 2 (.ifCond .lt 8) 3 0 0 0 := rfl
theorem oq_X2_workOut_5 : cw_ho 34 5 (.iload_n 2) 1 0 0 0 := rfl
theorem oq_X2_workOut_6 : cw_ho 34 6 (.iconst 4) 1 0 0 0 := rfl
theorem oq_X2_workOut_7 : cw_ho 34 7 (.if_icmp .lt 7) 3 0 0 0 := rfl
theorem oq_X2_workOut_14 : cw_ho 34 14 (.iconst 0) 1 0 0 0 := rfl
theorem oq_X2_workOut_15 : cw_ho 34 15 (.putfield 89) 3 2 4 2 := rfl
theorem oq_X2_workOut_18 : cw_ho 34 18 (.iconst 0) 1 0 0 0 := rfl
theorem oq_X2_workOut_19 : cw_ho 34 19 (.istore_n 3) 1 0 0 0 := rfl
theorem oq_X2_workOut_20 : cw_ho 34 20 (.aload_n 0) 1 0 0 0 := rfl
theorem oq_X2_workOut_21 : cw_ho 34 21 (.getfield 89) 3 2 4 2 := rfl
theorem oq_X2_workOut_24 : cw_ho 34 24 (.ifCond .eq 8) 3 0 0 0 := rfl
theorem oq_X2_workOut_32 : cw_ho 34 32 (.aload_n 1) 1 0 0 0 := rfl
theorem oq_X2_workOut_33 : cw_ho 34 33 (.getfield 104) 3 4 4 4 := rfl
theorem oq_X2_workOut_36 : cw_ho 34 36 (.iload_n 2) 1 0 0 0 := rfl
theorem oq_X2_workOut_37 : cw_ho 34 37 (.iaload) 1 0 0 0 := rfl
theorem oq_X2_workOut_38 : cw_ho 34 38 (.istore 4) 2 0 0 0 := rfl
theorem cl_workOut (hT : cw_T G h0) (hdp : zdp 0 cs) (hb : cw_sh[b]? = some 4) (hRC : cw_sh[RC]? = some 29) (hRA : cw_sh[RA]? = some 30) (hRB : cw_sh[RB]? = some 31) (pC : cw_at h0 b 1 = some (cv_r RC)) (pA : cw_at h0 b 4 = some (cv_r RA)) (pB : cw_at h0 b 5 = some (cv_r RB)) (hlaw : 0 ≤ law.toInt ∧ law.toInt < 4) (hA : ri_at h0 RA law.toInt.toNat = a) (hB : ri_at h0 RB law.toInt.toNat = ((a + cs.length : Nat) : Int)) (h64 : a + cs.length ≤ 64) (hC : ∀ m, m < cs.length → ri_at h0 RC (a + m) = cs.getD m 0) (hcb : ∀ c, c ∈ cs → 0 ≤ c ∧ c ≤ 20012 ∧ (c < 10010 ∨ 20000 ≤ c)) (hN : ∀ j, j < 10 → rl_at h0 56 j = N j) (hNb : ∀ j, zbb (N j)) (h1 : ∀ S, zev N cs [] = some S → S.length = 1) (hQ : ∀ (y : Int64) h', cw_T G h' → zE h0 h' → (ri_at h' 55 4 = 0 ∧ zLV N cs = some y.toInt ∨ ri_at h' 55 4 = 1 ∧ zLV N cs = none) → Q (some (cv_l y), h')) : cw_X X 34 Q 0 (cv_ent 0 [cv_r 55, cv_r b, cv_i law]) [] h0 := by
  refine ex_al oq_X2_workOut_0 rfl ?_
  refine ex_il oq_X2_workOut_1 rfl ?_
  refine ex_if0 oq_X2_workOut_2 (t := 10) rfl rfl (fun (c101 : law.toInt < 0) => ?_) (fun (c101 : ¬ (law.toInt < 0)) => ?_)
  · exfalso; omega
  · refine ex_il oq_X2_workOut_5 rfl ?_
    refine ex_ic oq_X2_workOut_6 (m := 4) (by decide) (fun x102 hx102 => ?_)
    refine ex_if oq_X2_workOut_7 (t := 14) rfl rfl (fun (c103 : law.toInt < x102.toInt) => ?_) (fun (c103 : ¬ (law.toInt < x102.toInt)) => ?_)
    · refine ex_ic oq_X2_workOut_14 (m := 0) (by decide) (fun x104 hx104 => ?_)
      refine ex_pfb oq_X2_workOut_15 hT (k := 55) (d := 2) rfl rfl rfl (by omega) (by omega) (fun h105 Th105 wh105 => ?_)
      have eh105_55_4 : ri_at h105 55 4 = x104.toInt := ri_self wh105
      have Eh105 : zE h0 h105 := zE_4 zE_0 wh105
      refine ex_ic oq_X2_workOut_18 (m := 0) (by decide) (fun x106 hx106 => ?_)
      refine ex_isA oq_X2_workOut_19 (fun L107 gL107_3 kL107 => ?_)
      have gL107_0 : cv_get L107 0 = some (cv_r 55) := kL107 0 _ (by decide) (fun q => absurd q (by decide)) rfl
      have gL107_1 : cv_get L107 1 = some (cv_r b) := kL107 1 _ (by decide) (fun q => absurd q (by decide)) rfl
      have gL107_2 : cv_get L107 2 = some (cv_i law) := kL107 2 _ (by decide) (fun _ => rfl) rfl
      refine ex_al oq_X2_workOut_20 gL107_0 ?_
      obtain ⟨x108, ax108, rx108, lx108, ux108⟩ := ri_fld (k := 55) (d := 2) (f := 4) Th105 rfl rfl rfl
      try dsimp only at lx108 ux108
      refine ex_gf oq_X2_workOut_21 Th105 (k := 55) (d := 2) rfl rfl ax108 ?_
      have rx108 := (rx108.symm.trans eh105_55_4 : x108.toInt = x104.toInt)
      refine ex_if0 oq_X2_workOut_24 (t := 32) rfl rfl (fun (c109 : x108.toInt = 0) => ?_) (fun (c109 : ¬ (x108.toInt = 0)) => ?_)
      · refine ex_al oq_X2_workOut_32 gL107_1 ?_
        refine ex_gf oq_X2_workOut_33 Th105 (k := b) (d := 4) hb rfl ((zE_at Eh105 (cw_kne (k := b) (d := 4) (k' := 55) (d' := 2) hb rfl (by decide)) (cw_kne (k := b) (d := 4) (k' := 57) (d' := 18) hb rfl (by decide))).trans pA) ?_
        refine ex_il oq_X2_workOut_36 gL107_2 ?_
        refine ex_ia1 oq_X2_workOut_37 Th105 (k := RA) (d := 30) (j := law.toInt.toNat) hRA rfl (by omega) (by omega) (fun x110 hx110 lx110 ux110 => ?_)
        have hx110 : x110.toInt = (a : Int) := hx110.symm.trans ((zE_ri Eh105 (cw_kne (k := RA) (d := 30) (k' := 55) (d' := 2) hRA rfl (by decide)) (cw_kne (k := RA) (d := 30) (k' := 57) (d' := 18) hRA rfl (by decide))).trans (hA))
        refine ex_iswA oq_X2_workOut_38 (fun L111 gL111_4 kL111 => ?_)
        have gL111_3 : cv_get L111 3 = some (cv_i x106) := kL111 3 _ (by decide) (fun _ => rfl) gL107_3
        have gL111_0 : cv_get L111 0 = some (cv_r 55) := kL111 0 _ (by decide) (fun q => absurd q (by decide)) gL107_0
        have gL111_1 : cv_get L111 1 = some (cv_r b) := kL111 1 _ (by decide) (fun q => absurd q (by decide)) gL107_1
        have gL111_2 : cv_get L111 2 = some (cv_i law) := kL111 2 _ (by decide) (fun q => absurd q (by decide)) gL107_2
        exact wo_lp hb hRC hRA hRB pC pA pB hlaw hA hB h64 hC hcb hN hNb h1 hQ cs [] [] x110 x106 h105 L111 rfl rfl hdp (fun v hv => absurd hv (by simp)) (by rw [List.length_nil]; omega) (by rw [List.length_nil]; omega) (Nat.le_refl _) Th105 Eh105 (by omega) (fun i hi => absurd hi (by simp)) gL111_0 gL111_1 gL111_2 gL111_3 gL111_4
      · exfalso; omega
    · exfalso; omega
end WO
end GN
