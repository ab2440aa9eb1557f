/-! ===== queries leave alone what both hold ===== -/
set_option maxRecDepth 10000
/-- the same with answers of two words -/
def zJL (jc jr a : Nat) (r : Bool) : Prop := ∀ (X : cv_X) (Gn : Int) (h : cv_H) (as : List Int32), cw_Xok X → as.length = a → cw_T Gn h → cw_PP Gn h → lg_E h → cw_X X jc (fun o => ∃ (x : Int64) (h1 : cv_H), o = (some (cv_l x), h1) ∧ cw_T Gn h1 ∧ h1[149]? = h[149]? ∧ cw_X X jr (fun o => ∃ (y : Int64) (G2 : Int) (h2 : cv_H), o = (some (cv_l y), h2) ∧ cw_T G2 h2 ∧ cw_PP G2 h2 ∧ lg_E h2 ∧ h2[149]? = h[149]? ∧ (r = true → x = y)) 0 (cv_ent 0 (cv_r 111 :: as.map cv_i)) [] h1) 0 (cv_ent 0 (cv_r 0 :: as.map cv_i)) [] h
theorem zJ_ql {Kc Kr : cw_K} {E : ef_K} {ie a jc jr : Nat} {wc wr : cw_W} (hKc : ∀ Gn, cw_Holds fk_all mt_all cw_Ds cw_sh Gn (cw_PP Gn) Kc) (hKr : ∀ Gn, cw_Holds fk_all mt_all cw_Ds cw_sh Gn (cw_PP Gn) Kr) (koc : zkqc Kc E ie a) (kor : zkr zsl Kr a) (ac : Kc.2.2.1 = some (.inr (.inl wc))) (ar : Kr.2.2.1 = some (.inr (.inl wr))) (ec : Kc.1.1 = jc) (er : Kr.1.1 = jr) : zJL jc jr a false := by
  subst ec er
  intro X Gn h as hX ha hT hP he
  subst ha
  have hz := he.2
  obtain ⟨-, p, q, -, ⟨⟨f1, f2, -⟩, -⟩, -⟩ := hz
  refine cw_X_imp (zq_c (hKc Gn) koc hX hT hP f1 f2) (fun o w => ?_)
  obtain ⟨po, z⟩ := w
  have hP1 := po.2.1.2
  have hF1 := po.2.2.1
  obtain ⟨x, h1, rfl, -, hT1, -⟩ := po_lng po ac
  refine ⟨x, h1, rfl, hT1, hF1.1 149 rfl, ?_⟩
  refine cw_X_imp (zqr_x (hKr Gn) kor hX hT1 hP1) (fun o w => ?_)
  obtain ⟨po2, z2⟩ := w
  have hP2 := po2.2.1.2
  have hF2 := po2.2.2.1
  obtain ⟨y, h2, rfl, -, hT2, -⟩ := po_lng po2 ar
  exact ⟨y, Gn, h2, rfl, hT2, hP2, lg_E_R (lg_E_C he z) z2, (hF2.1 149 rfl).trans (hF1.1 149 rfl), fun q => absurd q Bool.false_ne_true⟩
theorem zk_c2 : zkqc kk_X11_fault ec_X11_fault_0 110 1 := ⟨rfl, rfl, rfl, rfl, rfl, rfl, by decide +kernel, by decide⟩
theorem zk_r2 : zkr zsl kk_X12_fault 1 := ⟨rfl, rfl, by decide +kernel⟩
theorem zJ_c2 : zJ 111 189 1 false := zJ_q (fun Gn => hz_X11_fault) (fun Gn => hz_X12_fault) zk_c2 zk_r2 rfl rfl rfl rfl
theorem zk_c3 : zkqc kk_X11_named ec_X11_named_0 114 2 := ⟨rfl, rfl, rfl, rfl, rfl, rfl, by decide +kernel, by decide⟩
theorem zk_r3 : zkr zsl kk_X12_named 2 := ⟨rfl, rfl, by decide +kernel⟩
theorem zJ_c3 : zJ 112 190 2 false := zJ_q (fun Gn => hz_X11_named) (fun Gn => hz_X12_named) zk_c3 zk_r3 rfl rfl rfl rfl
theorem zk_c5 : zkqc kk_X11_works ec_X11_works_0 116 2 := ⟨rfl, rfl, rfl, rfl, rfl, rfl, by decide +kernel, by decide⟩
theorem zk_r5 : zkr zsl kk_X12_works 2 := ⟨rfl, rfl, by decide +kernel⟩
theorem zJ_c5 : zJ 119 219 2 false := zJ_q (fun Gn => hz_X11_works) (fun Gn => hz_X12_works) zk_c5 zk_r5 rfl rfl rfl rfl
theorem zk_c6 : zkqc kk_X11_firm ec_X11_firm_0 119 1 := ⟨rfl, rfl, rfl, rfl, rfl, rfl, by decide +kernel, by decide⟩
theorem zk_r6 : zkr zsl kk_X12_firm 1 := ⟨rfl, rfl, by decide +kernel⟩
theorem zJ_c6 : zJ 120 220 1 false := zJ_q (fun Gn => hz_X11_firm) (fun Gn => hz_X12_firm) zk_c6 zk_r6 rfl rfl rfl rfl
theorem zk_c8 : zkqc kk_X11_sags ec_X11_sags_0 140 2 := ⟨rfl, rfl, rfl, rfl, rfl, rfl, by decide +kernel, by decide⟩
theorem zk_r8 : zkr zsl kk_X12_sags 2 := ⟨rfl, rfl, by decide +kernel⟩
theorem zJ_c8 : zJ 122 222 2 false := zJ_q (fun Gn => hz_X11_sags) (fun Gn => hz_X12_sags) zk_c8 zk_r8 rfl rfl rfl rfl
theorem zk_c9 : zkqc kk_X11_latched ec_X11_latched_0 142 1 := ⟨rfl, rfl, rfl, rfl, rfl, rfl, by decide +kernel, by decide⟩
theorem zk_r9 : zkr zsl kk_X12_latched 1 := ⟨rfl, rfl, by decide +kernel⟩
theorem zJ_c9 : zJ 123 224 1 false := zJ_q (fun Gn => hz_X11_latched) (fun Gn => hz_X12_latched) zk_c9 zk_r9 rfl rfl rfl rfl
theorem zk_c10 : zkqc kk_X11_gives ec_X11_gives_0 143 1 := ⟨rfl, rfl, rfl, rfl, rfl, rfl, by decide +kernel, by decide⟩
theorem zk_r10 : zkr zsl kk_X12_gives 1 := ⟨rfl, rfl, by decide +kernel⟩
theorem zJ_c10 : zJ 124 225 1 false := zJ_q (fun Gn => hz_X11_gives) (fun Gn => hz_X12_gives) zk_c10 zk_r10 rfl rfl rfl rfl
theorem zk_c13 : zkqc kk_X11_lasts ec_X11_lasts_0 162 2 := ⟨rfl, rfl, rfl, rfl, rfl, rfl, by decide +kernel, by decide⟩
theorem zk_r13 : zkr zsl kk_X12_lasts 2 := ⟨rfl, rfl, by decide +kernel⟩
theorem zJ_c13 : zJ 127 230 2 false := zJ_q (fun Gn => hz_X11_lasts) (fun Gn => hz_X12_lasts) zk_c13 zk_r13 rfl rfl rfl rfl
theorem zk_c14 : zkqc kk_X11_least ec_X11_least_0 167 4 := ⟨rfl, rfl, rfl, rfl, rfl, rfl, by decide +kernel, by decide⟩
theorem zk_r14 : zkr zsl kk_X12_least 4 := ⟨rfl, rfl, by decide +kernel⟩
theorem zJ_c14 : zJ 128 232 4 false := zJ_q (fun Gn => hz_X11_least) (fun Gn => hz_X12_least) zk_c14 zk_r14 rfl rfl rfl rfl
theorem zk_c15 : zkqc kk_X11_way ec_X11_way_0 169 2 := ⟨rfl, rfl, rfl, rfl, rfl, rfl, by decide +kernel, by decide⟩
theorem zk_r15 : zkr zsl kk_X12_way 2 := ⟨rfl, rfl, by decide +kernel⟩
theorem zJ_c15 : zJ 130 234 2 false := zJ_q (fun Gn => hz_X11_way) (fun Gn => hz_X12_way) zk_c15 zk_r15 rfl rfl rfl rfl
theorem zk_c16 : zkqc kk_X11_enough ec_X11_enough_0 171 3 := ⟨rfl, rfl, rfl, rfl, rfl, rfl, by decide +kernel, by decide⟩
theorem zk_r16 : zkr zsl kk_X12_enough 3 := ⟨rfl, rfl, by decide +kernel⟩
theorem zJ_c16 : zJ 132 235 3 false := zJ_q (fun Gn => hz_X11_enough) (fun Gn => hz_X12_enough) zk_c16 zk_r16 rfl rfl rfl rfl
theorem zk_c17 : zkqc kk_X11_bears ec_X11_bears_0 172 3 := ⟨rfl, rfl, rfl, rfl, rfl, rfl, by decide +kernel, by decide⟩
theorem zk_r17 : zkr zsl kk_X12_bears 3 := ⟨rfl, rfl, by decide +kernel⟩
theorem zJ_c17 : zJ 133 236 3 false := zJ_q (fun Gn => hz_X11_bears) (fun Gn => hz_X12_bears) zk_c17 zk_r17 rfl rfl rfl rfl
theorem zk_c18 : zkqc kk_X11_knock ec_X11_knock_0 176 2 := ⟨rfl, rfl, rfl, rfl, rfl, rfl, by decide +kernel, by decide⟩
theorem zk_r18 : zkr zsl kk_X12_knock 2 := ⟨rfl, rfl, by decide +kernel⟩
theorem zJ_c18 : zJL 134 237 2 false := zJ_ql (fun Gn => hz_X11_knock) (fun Gn => hz_X12_knock) zk_c18 zk_r18 rfl rfl rfl rfl
theorem zk_c22 : zkqc kk_X11_fits ec_X11_fits_0 200 1 := ⟨rfl, rfl, rfl, rfl, rfl, rfl, by decide +kernel, by decide⟩
theorem zk_r22 : zkr zsl kk_X12_fits 1 := ⟨rfl, rfl, by decide +kernel⟩
theorem zJ_c22 : zJ 138 248 1 false := zJ_q (fun Gn => hz_X11_fits) (fun Gn => hz_X12_fits) zk_c22 zk_r22 rfl rfl rfl rfl
theorem zk_c23 : zkqc kk_X11_odds ec_X11_odds_0 204 3 := ⟨rfl, rfl, rfl, rfl, rfl, rfl, by decide +kernel, by decide⟩
theorem zk_r23 : zkr zsl kk_X12_odds 3 := ⟨rfl, rfl, by decide +kernel⟩
theorem zJ_c23 : zJ 139 251 3 false := zJ_q (fun Gn => hz_X11_odds) (fun Gn => (hk_X12_odds hz_X12_layCounts hz_X12_isFit)) zk_c23 zk_r23 rfl rfl rfl rfl
theorem zk_c24 : zkqc kk_X11_test ec_X11_test_0 208 2 := ⟨rfl, rfl, rfl, rfl, rfl, rfl, by decide +kernel, by decide⟩
theorem zk_r24 : zkr zsl kk_X12_test 2 := ⟨rfl, rfl, by decide +kernel⟩
theorem zJ_c24 : zJ 140 253 2 false := zJ_q (fun Gn => hz_X11_test) (fun Gn => hz_X12_test) zk_c24 zk_r24 rfl rfl rfl rfl
theorem zk_c25 : zkqc kk_X11_low ec_X11_low_0 211 2 := ⟨rfl, rfl, rfl, rfl, rfl, rfl, by decide +kernel, by decide⟩
theorem zk_r25 : zkr zsl kk_X12_low 2 := ⟨rfl, rfl, by decide +kernel⟩
theorem zJ_c25 : zJ 141 256 2 false := zJ_q (fun Gn => hz_X11_low) (fun Gn => hz_X12_low) zk_c25 zk_r25 rfl rfl rfl rfl
theorem zk_c26 : zkqc kk_X11_rest ec_X11_rest_0 212 1 := ⟨rfl, rfl, rfl, rfl, rfl, rfl, by decide +kernel, by decide⟩
theorem zk_r26 : zkr zsl kk_X12_rest 1 := ⟨rfl, rfl, by decide +kernel⟩
theorem zJ_c26 : zJ 142 257 1 false := zJ_q (fun Gn => hz_X11_rest) (fun Gn => hz_X12_rest) zk_c26 zk_r26 rfl rfl rfl rfl
theorem zk_c27 : zkqc kk_X11_shuts ec_X11_shuts_0 214 1 := ⟨rfl, rfl, rfl, rfl, rfl, rfl, by decide +kernel, by decide⟩
theorem zk_r27 : zkr zsl kk_X12_shuts 1 := ⟨rfl, rfl, by decide +kernel⟩
theorem zJ_c27 : zJ 143 259 1 false := zJ_q (fun Gn => hz_X11_shuts) (fun Gn => hz_X12_shuts) zk_c27 zk_r27 rfl rfl rfl rfl
theorem zk_c28 : zkqc kk_X11_above ec_X11_above_0 216 2 := ⟨rfl, rfl, rfl, rfl, rfl, rfl, by decide +kernel, by decide⟩
theorem zk_r28 : zkr zsl kk_X12_above 2 := ⟨rfl, rfl, by decide +kernel⟩
theorem zJ_c28 : zJ 144 261 2 false := zJ_q (fun Gn => hz_X11_above) (fun Gn => hz_X12_above) zk_c28 zk_r28 rfl rfl rfl rfl
theorem zk_c29 : zkqc kk_X11_opens ec_X11_opens_0 217 1 := ⟨rfl, rfl, rfl, rfl, rfl, rfl, by decide +kernel, by decide⟩
theorem zk_r29 : zkr zsl kk_X12_opens 1 := ⟨rfl, rfl, by decide +kernel⟩
theorem zJ_c29 : zJ 145 263 1 false := zJ_q (fun Gn => hz_X11_opens) (fun Gn => hz_X12_opens) zk_c29 zk_r29 rfl rfl rfl rfl
theorem zk_c31 : zkqc kk_X11_first ec_X11_first_0 230 2 := ⟨rfl, rfl, rfl, rfl, rfl, rfl, by decide +kernel, by decide⟩
theorem zk_r31 : zkr zsl kk_X12_first 2 := ⟨rfl, rfl, by decide +kernel⟩
theorem zJ_c31 : zJ 147 268 2 false := zJ_q (fun Gn => hz_X11_first) (fun Gn => (hk_X12_first hz_X12_lays_5 hz_X12_lays_3 hz_X12_dropOf hz_X12_weekOfAll)) zk_c31 zk_r31 rfl rfl rfl rfl
theorem zk_c32 : zkqc kk_X11_wind ec_X11_wind_0 231 5 := ⟨rfl, rfl, rfl, rfl, rfl, rfl, by decide +kernel, by decide⟩
theorem zk_r32 : zkr zsl kk_X12_wind 5 := ⟨rfl, rfl, by decide +kernel⟩
theorem zJ_c32 : zJ 149 269 5 false := zJ_q (fun Gn => hz_X11_wind) (fun Gn => hz_X12_wind) zk_c32 zk_r32 rfl rfl rfl rfl
theorem zk_c35 : zkqc kk_X11_count ec_X11_count_0 238 1 := ⟨rfl, rfl, rfl, rfl, rfl, rfl, by decide +kernel, by decide⟩
theorem zk_r35 : zkr zsl kk_X12_count 1 := ⟨rfl, rfl, by decide +kernel⟩
theorem zJ_c35 : zJ 152 272 1 false := zJ_q (fun Gn => hz_X11_count) (fun Gn => hz_X12_count) zk_c35 zk_r35 rfl rfl rfl rfl
