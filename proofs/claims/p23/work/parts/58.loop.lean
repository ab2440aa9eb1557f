/-! ===== the law: feed, text, look; a turn; all turns ===== -/
theorem lg_L_set {L : cv_L} {i : Int32} {k : Nat} {v : cv_V} (hk : 5 ≤ k) (hL : lg_L L i) : lg_L (cv_set L k v) i := by
  obtain ⟨l0, l1, l2, l3, l4⟩ := hL
  exact ⟨cw_Lk_set 0 _ (by omega) (fun q => absurd q (by omega)) l0, cw_Lk_set 1 _ (by omega) (fun q => absurd q (by omega)) l1, cw_Lk_set 2 _ (by omega) (fun q => absurd q (by omega)) l2, cw_Lk_set 3 _ (by omega) (fun q => absurd q (by omega)) l3, cw_Lk_set 4 _ (by omega) (fun _ => rfl) l4⟩
theorem lg_L_inc {L : cv_L} {i j : Int32} (hL : lg_L L i) : lg_L (cv_set L 4 (cv_i j)) j := by
  obtain ⟨l0, l1, l2, l3, l4⟩ := hL
  exact ⟨cw_Lk_set 0 _ (by decide) (fun q => absurd q (by decide)) l0, cw_Lk_set 1 _ (by decide) (fun q => absurd q (by decide)) l1, cw_Lk_set 2 _ (by decide) (fun q => absurd q (by decide)) l2, cw_Lk_set 3 _ (by decide) (fun _ => rfl) l3, cw_gs_self _ _ _⟩
theorem zT_eq {S : (Int × Nat) ⊕ (zSg × Int)} {x y : Int32} {h h' : cv_H} (a : zTc S x h) (b : zTe S y h') : x.toInt = y.toInt := by
  rcases S with ⟨f, p⟩ | ⟨s, k⟩
  · exact a.1.trans b.1.symm
  · exact a.1.trans b.1.symm
theorem zT_m {S : (Int × Nat) ⊕ (zSg × Int)} {pl sp : Nat} {h h1 h3 : cv_H} (qq : cw_sh[pl]? = some 4 ∧ cw_sh[sp]? = some 4 ∧ pl ≠ sp) (a : zTp S pl sp h h1) (b : zTw S (fun i => ri_at h1 111 i) h3) (u2 : cw_at h3 0 2 = cw_at h1 0 2) (u3 : cw_at h3 0 3 = cw_at h1 0 3) (u9 : ∀ k : Nat, cw_sh[k]? = some 4 → ri_at h3 k 9 = ri_at h1 k 9) (u86 : ri_at h3 86 9 = ri_at h1 86 9) (v12 : ri_at h1 111 12 = ri_at h 111 12) (v52 : ri_at h1 111 52 = ri_at h 111 52) (w4 : ri_at h pl 9 = ri_at h 111 12) (w5 : ri_at h 86 9 = ri_at h 111 52) : lg_W h3 := by
  rcases S with q | ⟨s, k⟩
  · obtain ⟨⟨c1, c2, c3, c4, c5⟩, c6, c7, c8⟩ := a
    have b1 : ri_at h3 111 12 = ri_at h1 111 12 := b 12 (by decide)
    have b2 : ri_at h3 111 52 = ri_at h1 111 52 := b 52 (by decide)
    refine ⟨⟨pl, sp, qq, u2.trans c6, u3.trans c7, ?_⟩, ?_⟩
    · rw [u9 pl qq.1, b1, v12, c8.1 pl qq.1 qq.2.2 9 (by decide)]; exact w4
    · rw [u86, b2, v52, c3]; exact w5
  · obtain ⟨⟨c1, c2, c3, c4, c5⟩, c6, c7, c8⟩ := a
    obtain ⟨⟨d1, d2, d3, d4⟩, d5, d6, d7, d8, d9⟩ := b
    refine ⟨⟨sp, pl, ⟨qq.2.1, qq.1, Ne.symm qq.2.2⟩, u2.trans c6, u3.trans c7, ?_⟩, ?_⟩
    · rw [u9 sp qq.2.1, d2.1]; exact c8.2.2.2.1.1
    · rw [u86, c3, d7]
section LG
variable {X : cv_X} {G : cv_S → Prop} {xs : List Int32} {L : cv_L} {i : Int32} {h : cv_H} {c n : Nat}
set_option maxRecDepth 20000 in
theorem lg_c0 (hR : lg_R X G) (hX : cw_Xok X) (h2 : X 2 = some xs) (h0 : 0 ≤ i.toInt) (h6 : i.toInt + 6 ≤ xs.length) (hl : xs.length ≤ 3072) (hL : lg_L L i) (hH : lg_H h) (hc : c ≤ 601024) (hs : n ≤ 7293034) (kk : ∀ h', lg_H h' → G (1487, L, [], h', c, n)) : G (200, L, [], h, c, n) := by
  obtain ⟨Gn, hT, hP, he, y, hy⟩ := hH
  obtain ⟨⟨e1, e2, e3, e4, e5⟩, eW⟩ := he
  obtain ⟨cN, hcN⟩ : ∃ cN : Nat, ri_at h 0 1 = cN := by
    obtain ⟨x, -, r1, r2, r3⟩ := ri_fld (k := 0) (d := 11) (f := 1) hT rfl rfl rfl
    dsimp only at r2 r3
    exact ⟨(ri_at h 0 1).toNat, by omega⟩
  refine lg_ld hR (lg_o_ok (show lg_o 200 (.aload_n 1) 1 0 0 0 = true by decide +kernel)) rfl rfl hL.2.1 rfl ?_
  refine lg_args hR h2 h0 h6 hl hL [1, 2, 3, 4, 5] 201 _ (by decide +kernel) ?_
  refine lg_cv (ix := 21) (k := 0) (d := 11) (stk := []) hR (lg_o_ok (show lg_o 231 (.invokevirtual 21) 3 107 5 ((11 : Nat) : Int) = true by decide +kernel)) (by decide) hT rfl rfl rfl rfl ⟨rfl, rfl⟩ hc hs
    (R := fun o => ∃ (x : Int32) (h' : cv_H), o = (some (cv_i x), h') ∧ cw_T Gn h' ∧ cw_Fr cw_Ds cw_sh kk_X11_feed.2.2.2.2.2.1 h h' ∧ (880 < cN ∧ x.toInt = -1 ∧ ri_at h' 0 1 = cN ∧ (∀ i, ri_at h' 1 i = ri_at h 1 i) ∨ cN ≤ 880 ∧ x.toInt = cN + 20 ∧ ri_at h' 0 1 = cN + 20 ∧ zTP zm8 1 h h' cN 20 (zfd [lg_v xs i 1, lg_v xs i 2, lg_v xs i 3, lg_v xs i 4, lg_v xs i 5])))
    (ct_feed hT (lg_v xs i 1) (lg_v xs i 2) (lg_v xs i 3) (lg_v xs i 4) (lg_v xs i 5) hcN (fun x h' a b w => ⟨x, h', rfl, a, b, w⟩)) (fun o ho => ?_)
  obtain ⟨x1, h1, rfl, hT1, hF1, w1⟩ := ho
  have hP1 : cw_PP Gn h1 := pp_fr0 (by decide +kernel) hP hF1
  have t1 : ri_at h1 111 1 = ri_at h 111 1 := ri_frf hF1 (d := 12) rfl rfl (by decide +kernel)
  have y1 : h1[149]? = some (cv_cl [y]) := by rw [hF1.1 149 rfl]; exact hy
  refine lg_pop hR (show lg_o 234 .pop 1 0 0 0 = true by decide +kernel) rfl ?_
  refine lg_ld hR (lg_o_ok (show lg_o 235 (.aload_n 2) 1 0 0 0 = true by decide +kernel)) rfl rfl hL.2.2.1 rfl ?_
  refine lg_args hR h2 h0 h6 hl hL [1, 2, 3, 4, 5] 236 _ (by decide +kernel) ?_
  refine lg_cv (ix := 25) (k := 111) (d := 12) (stk := []) hR (lg_o_ok (show lg_o 266 (.invokevirtual 25) 3 155 5 ((12 : Nat) : Int) = true by decide +kernel)) (by decide) hT1 rfl rfl rfl rfl ⟨rfl, rfl⟩ hc hs
    (R := fun o => ∃ (x : Int32) (h' : cv_H), o = (some (cv_i x), h') ∧ cw_T Gn h' ∧ cw_Fr cw_Ds cw_sh kk_X12_feed.2.2.2.2.2.1 h1 h' ∧ (880 < cN ∧ x.toInt = -1 ∧ ri_at h' 111 1 = cN ∧ (∀ i, ri_at h' 112 i = ri_at h1 112 i) ∨ cN ≤ 880 ∧ x.toInt = cN + 20 ∧ ri_at h' 111 1 = cN + 20 ∧ zTP id 112 h1 h' cN 20 (zfd [lg_v xs i 1, lg_v xs i 2, lg_v xs i 3, lg_v xs i 4, lg_v xs i 5])))
    (rt_feed hT1 (lg_v xs i 1) (lg_v xs i 2) (lg_v xs i 3) (lg_v xs i 4) (lg_v xs i 5) (by omega) (fun x h' a b w => ⟨x, h', rfl, a, b, w⟩)) (fun o ho => ?_)
  obtain ⟨x2, h3, rfl, hT3, hF3, w3⟩ := ho
  have hP3 : cw_PP Gn h3 := pp_fr0 (by decide +kernel) hP1 hF3
  have t3 : ri_at h3 0 1 = ri_at h1 0 1 := ri_frf hF3 (d := 11) rfl rfl (by decide +kernel)
  have y3 : h3[149]? = some (cv_cl [y]) := by rw [hF3.1 149 rfl]; exact y1
  refine lg_pop hR (show lg_o 269 .pop 1 0 0 0 = true by decide +kernel) rfl ?_
  refine lg_goto (off := 1217) hR (by decide +kernel) (by decide +kernel) (kk h3 ⟨Gn, hT3, hP3, ⟨⟨by omega, ?_, ?_, ?_, ?_⟩, lg_W_S (lg_W_S eW (lg_S1_fr hF1 (by decide +kernel))) (lg_S1_fr hF3 (by decide +kernel))⟩, y, y3⟩)
  · intro i hi
    have r1 : ri_at h3 1 i = ri_at h1 1 i := ri_frr hF3 (k := 1) (d := 13) rfl rfl (by decide +kernel)
    have r2 : ri_at h1 112 i = ri_at h 112 i := ri_frr hF1 (k := 112) (d := 51) rfl rfl (by decide +kernel)
    rw [r1]
    rcases w1 with ⟨a1, a2, a3, a4⟩ | ⟨a1, a2, a3, a4⟩
    · rcases w3 with ⟨b1, b2, b3, b4⟩ | ⟨b1, b2, b3, b4⟩
      · rw [a4, b4, r2]
        exact e2 i (by omega)
      · omega
    · rcases w3 with ⟨b1, b2, b3, b4⟩ | ⟨b1, b2, b3, b4⟩
      · omega
      · by_cases q : i < cN
        · rw [a4.2 i (.inl q), b4.2 i (.inl q), r2]
          exact e2 i (by omega)
        · have u1 := a4.1 (i - cN) (by omega)
          have u2 := b4.1 (i - cN) (by omega)
          rw [show cN + (i - cN) = i from by omega] at u1 u2
          exact u1.trans u2.symm
  · intro i hi
    have r1 : ri_at h3 52 i = ri_at h1 52 i := ri_frr hF3 (k := 52) (d := 43) rfl rfl (by decide +kernel)
    have r2 : ri_at h1 52 i = ri_at h 52 i := ri_frr hF1 (k := 52) (d := 43) rfl rfl (by decide +kernel)
    rw [r1, r2]
    exact e3 i hi
  · exact zPM_fr (.inl rfl) hF3 (by decide +kernel) (zPM_fr (.inl rfl) hF1 (by decide +kernel) e4)
  · exact zPM_fr (.inr rfl) hF3 (by decide +kernel) (zPM_fr (.inr rfl) hF1 (by decide +kernel) e5)
set_option maxRecDepth 20000 in
theorem lg_c1 (hR : lg_R X G) (hX : cw_Xok X) (h2 : X 2 = some xs) (h0 : 0 ≤ i.toInt) (h6 : i.toInt + 6 ≤ xs.length) (hl : xs.length ≤ 3072) (hL : lg_L L i) (hH : lg_H h) (hc : c ≤ 601024) (hs : n ≤ 7293034) (kk : ∀ h', lg_H h' → G (1487, L, [], h', c, n)) : G (273, L, [], h, c, n) := by
  obtain ⟨Gn, hT, hP, he, y, hy⟩ := hH
  obtain ⟨⟨e1, e2, e3, e4, e5⟩, ⟨⟨pl, sp, qq, w2, w3, w4⟩, w5⟩⟩ := he
  refine lg_ld hR (lg_o_ok (show lg_o 273 (.aload_n 1) 1 0 0 0 = true by decide +kernel)) rfl rfl hL.2.1 rfl ?_
  refine lg_args hR h2 h0 h6 hl hL [1] 274 _ (by decide +kernel) ?_
  refine lg_cv (ix := 26) (k := 0) (d := 11) (stk := []) hR (lg_o_ok (show lg_o 280 (.invokevirtual 26) 3 109 1 ((11 : Nat) : Int) = true by decide +kernel)) (by decide) hT rfl rfl rfl rfl ⟨rfl, rfl⟩ hc hs
    (R := fun o => ∃ (x : Int32) (h' : cv_H), o = (some (cv_i x), h') ∧ cw_T Gn h' ∧ cw_PP Gn h' ∧ cw_Fr cw_Ds cw_sh kk_X11_text.2.2.2.2.2.1 h h' ∧ (((lg_v xs i 1).toInt < 0 ∨ ri_at h 0 1 < (lg_v xs i 1).toInt) ∧ x.toInt = -2 ∧ h' = h ∨ (0 ≤ (lg_v xs i 1).toInt ∧ (lg_v xs i 1).toInt ≤ ri_at h 0 1) ∧ x.toInt = x.toInt ∧ ri_at h' 0 1 = 0 ∧ zTc (ztx (fun i => ri_at h 1 i % 256) (lg_v xs i 1).toInt.toNat 901 0 (0, (fun _ => 0), 0, [], [], []) 0) x h' ∧ zTp (ztx (fun i => ri_at h 1 i % 256) (lg_v xs i 1).toInt.toNat 901 0 (0, (fun _ => 0), 0, [], [], []) 0) pl sp h h'))
    (ct_text3 (t := (fun i => ri_at h 1 i % 256)) (cw_Xok_no2 hX) hT hP (lg_v xs i 1) (fun _ => rfl) e3 e4 e5 qq.1 qq.2.1 w2 w3 (fun x h' a p b w => ⟨x, h', rfl, a, p, b, w⟩)) (fun o ho => ?_)
  obtain ⟨x1, h1, rfl, hT1, hP1, hF1, w1⟩ := ho
  have t1 : ri_at h1 111 1 = ri_at h 111 1 := ri_frf hF1 (d := 12) rfl rfl (by decide +kernel)
  have r1 : ∀ i, ri_at h1 112 i = ri_at h 112 i := fun i => ri_frr hF1 (k := 112) (d := 51) rfl rfl (by decide +kernel)
  have y1 : h1[149]? = some (cv_cl [y]) := by rw [hF1.1 149 rfl]; exact hy
  refine lg_pop hR (show lg_o 283 .pop 1 0 0 0 = true by decide +kernel) rfl ?_
  refine lg_ld hR (lg_o_ok (show lg_o 284 (.aload_n 2) 1 0 0 0 = true by decide +kernel)) rfl rfl hL.2.2.1 rfl ?_
  refine lg_args hR h2 h0 h6 hl hL [1] 285 _ (by decide +kernel) ?_
  refine lg_cv (ix := 30) (k := 111) (d := 12) (stk := []) hR (lg_o_ok (show lg_o 291 (.invokevirtual 30) 3 188 1 ((12 : Nat) : Int) = true by decide +kernel)) (by decide) hT1 rfl rfl rfl rfl ⟨rfl, rfl⟩ hc hs
    (R := fun o => ∃ (x : Int32) (G' : Int) (h' : cv_H), o = (some (cv_i x), h') ∧ cw_T G' h' ∧ cw_PP G' h' ∧ cw_Fr cw_Ds cw_sh mk_tx h1 h' ∧ (((lg_v xs i 1).toInt < 0 ∨ ri_at h1 111 1 < (lg_v xs i 1).toInt) ∧ ri_at h' 111 1 = ri_at h1 111 1 ∧ x.toInt = -2 ∧ ri_at h' 111 4 = ri_at h1 111 4 ∧ ri_at h' 111 5 = ri_at h1 111 5 ∧ (∀ i, i ∈ ([12, 13, 14, 15, 43, 50, 52, 53, 66] : List Nat) → ri_at h' 111 i = ri_at h1 111 i) ∨ 0 ≤ (lg_v xs i 1).toInt ∧ (lg_v xs i 1).toInt ≤ ri_at h1 111 1 ∧ ri_at h' 111 1 = 0 ∧ zTe (ztx (fun i => ri_at h 1 i % 256) (lg_v xs i 1).toInt.toNat 901 0 (0, (fun _ => 0), 0, [], [], []) 0) x h' ∧ zTw (ztx (fun i => ri_at h 1 i % 256) (lg_v xs i 1).toInt.toNat 901 0 (0, (fun _ => 0), 0, [], [], []) 0) (fun i => ri_at h1 111 i) h'))
    (rt_text2 (t := (fun i => ri_at h 1 i % 256)) (cw_Xok_no2 hX) hT1 hP1 (lg_v xs i 1) (fun i hi => by rw [r1]; exact e2 i (by omega)) hP1.1 (fun p _ q => zk5 q) (fun x G' h' a p b w => ⟨x, G', h', rfl, a, p, b, w⟩)) (fun o ho => ?_)
  obtain ⟨x2, G', h3, rfl, hT3, hP3, hF3, w3'⟩ := ho
  have t3 : ri_at h3 0 1 = ri_at h1 0 1 := ri_frf hF3 (d := 11) rfl rfl (by decide +kernel)
  have y3 : h3[149]? = some (cv_cl [y]) := by rw [hF3.1 149 rfl]; exact y1
  have s3 : ∀ i, ri_at h3 1 i = ri_at h1 1 i := fun i => ri_frr hF3 (k := 1) (d := 13) rfl rfl (by decide +kernel)
  have s4 : ∀ i, ri_at h3 112 i = ri_at h1 112 i := fun i => ri_frr hF3 (k := 112) (d := 51) rfl rfl (by decide +kernel)
  have hE0 : lg_E0 h3 := by
    refine ⟨?_, fun i hi => ?_, fun i hi => ?_, zPM_fr (.inl rfl) hF3 (by decide +kernel) (zPM_fr (.inl rfl) hF1 (by decide +kernel) e4), zPM_fr (.inr rfl) hF3 (by decide +kernel) (zPM_fr (.inr rfl) hF1 (by decide +kernel) e5)⟩
    · rcases w1 with ⟨a1, a2, a3⟩ | ⟨a1, a2, a3, a4, a5⟩
      · rcases w3' with ⟨b1, b2, b3, b4, b5, b6⟩ | ⟨b1, b2, b3, b4, b5⟩
        · rw [t3, a3, b2, t1]; exact e1
        · omega
      · rcases w3' with ⟨b1, b2, b3, b4, b5, b6⟩ | ⟨b1, b2, b3, b4, b5⟩
        · omega
        · rw [t3, a3, b3]
    · rw [s3, s4, r1]
      rcases w1 with ⟨a1, a2, a3⟩ | ⟨a1, a2, a3, a4, a5⟩
      · rw [t3, a3] at hi
        rw [a3]
        exact e2 i hi
      · rw [t3, a3] at hi
        omega
    · rw [show ri_at h3 52 i = ri_at h1 52 i from ri_frr hF3 (k := 52) (d := 43) rfl rfl (by decide +kernel), show ri_at h1 52 i = ri_at h 52 i from ri_frr hF1 (k := 52) (d := 43) rfl rfl (by decide +kernel)]
      exact e3 i hi
  have hW : lg_W h3 := by
    have u2 : cw_at h3 0 2 = cw_at h1 0 2 := hF3.2 0 11 2 rfl (by decide +kernel)
    have u3 : cw_at h3 0 3 = cw_at h1 0 3 := hF3.2 0 11 3 rfl (by decide +kernel)
    have u9 : ∀ k : Nat, cw_sh[k]? = some 4 → ri_at h3 k 9 = ri_at h1 k 9 := fun k hk => ri_frf hF3 hk rfl (by decide +kernel)
    have u86 : ri_at h3 86 9 = ri_at h1 86 9 := ri_frf hF3 (d := 3) rfl rfl (by decide +kernel)
    have v12 : ri_at h1 111 12 = ri_at h 111 12 := ri_frf hF1 (d := 12) rfl rfl (by decide +kernel)
    have v52 : ri_at h1 111 52 = ri_at h 111 52 := ri_frf hF1 (d := 12) rfl rfl (by decide +kernel)
    rcases w1 with ⟨a1, a2, a3⟩ | ⟨a1, a2, a3, a4, a5⟩
    · rcases w3' with ⟨b1, b2, b3, b4, b5, b6⟩ | ⟨b1, b2, b3, b4, b5⟩
      · refine ⟨⟨pl, sp, qq, u2.trans (by rw [a3]; exact w2), u3.trans (by rw [a3]; exact w3), ?_⟩, ?_⟩
        · rw [u9 pl qq.1, b6 12 (by decide), v12, a3]; exact w4
        · rw [u86, b6 52 (by decide), v52, a3]; exact w5
      · omega
    · rcases w3' with ⟨b1, b2, b3, b4, b5, b6⟩ | ⟨b1, b2, b3, b4, b5⟩
      · omega
      · exact zT_m qq a5 b5 u2 u3 u9 u86 v12 v52 w4 w5
  refine lg_pop hR (show lg_o 294 .pop 1 0 0 0 = true by decide +kernel) rfl ?_
  exact lg_goto (off := 1192) hR (by decide +kernel) (by decide +kernel) (kk h3 ⟨G', hT3, hP3, ⟨hE0, hW⟩, y, y3⟩)
set_option maxRecDepth 20000 in
theorem lg_c19 (hR : lg_R X G) (hX : cw_Xok X) (h2 : X 2 = some xs) (h0 : 0 ≤ i.toInt) (h6 : i.toInt + 6 ≤ xs.length) (hl : xs.length ≤ 3072) (hL : lg_L L i) (hH : lg_H h) (hc : c ≤ 601024) (hs : n ≤ 7293034) (kk : ∀ h', lg_H h' → G (1487, L, [], h', c, n)) : G (894, L, [], h, c, n) := by
  obtain ⟨Gn, hT, hP, he, y, hy⟩ := hH
  obtain ⟨eE, ⟨⟨pl, sp, qq, w2, w3, w4⟩, w5⟩⟩ := id he
  refine lg_ld hR (lg_o_ok (show lg_o 894 (.aload_n 1) 1 0 0 0 = true by decide +kernel)) rfl rfl hL.2.1 rfl ?_
  refine lg_args hR h2 h0 h6 hl hL [1, 2, 3, 4, 5] 895 _ (by decide +kernel) ?_
  refine lg_cv (as := [cv_i (lg_v xs i 1), cv_i (lg_v xs i 2), cv_i (lg_v xs i 3), cv_i (lg_v xs i 4), cv_i (lg_v xs i 5)]) (ix := 106) (k := 0) (d := 11) (stk := []) hR (lg_o_ok (show lg_o 925 (.invokevirtual 106) 3 135 5 ((11 : Nat) : Int) = true by decide +kernel)) (by decide) hT rfl rfl rfl rfl ⟨rfl, rfl⟩ hc hs
    (R := fun o => ∃ (x : Int32) (h' : cv_H), o = (some (cv_i x), h') ∧ cw_T Gn h' ∧ cw_PP Gn h' ∧ cw_Fr cw_Ds cw_sh kk_X11_measure.2.2.2.2.2.1 h h' ∧ ((ri_at h 86 9 = 40 ∨ ¬ ((0 ≤ (lg_v xs i 1).toInt ∧ (lg_v xs i 1).toInt < ri_at h pl 9) ∧ (0 ≤ (lg_v xs i 2).toInt ∧ (lg_v xs i 2).toInt < 2000) ∧ (0 ≤ (lg_v xs i 3).toInt ∧ (lg_v xs i 3).toInt < 4) ∧ -9999999 ≤ (lg_v xs i 4).toInt ∧ (lg_v xs i 4).toInt ≤ (lg_v xs i 5).toInt ∧ (lg_v xs i 5).toInt ≤ 9999999)) ∧ x.toInt = -1 ∧ ri_at h' 86 9 = ri_at h 86 9 ∨ (¬ ri_at h 86 9 = 40 ∧ ((0 ≤ (lg_v xs i 1).toInt ∧ (lg_v xs i 1).toInt < ri_at h pl 9) ∧ (0 ≤ (lg_v xs i 2).toInt ∧ (lg_v xs i 2).toInt < 2000) ∧ (0 ≤ (lg_v xs i 3).toInt ∧ (lg_v xs i 3).toInt < 4) ∧ -9999999 ≤ (lg_v xs i 4).toInt ∧ (lg_v xs i 4).toInt ≤ (lg_v xs i 5).toInt ∧ (lg_v xs i 5).toInt ≤ 9999999)) ∧ x.toInt = ri_at h 86 9 ∧ ri_at h' 86 9 = ri_at h 86 9 + 1))
    (ct_measure hT hP qq.1 w2 rfl rfl (lg_v xs i 1) (lg_v xs i 2) (lg_v xs i 3) (lg_v xs i 4) (lg_v xs i 5) (fun x h' a p b w => ⟨x, h', rfl, a, p, b, w⟩)) (fun o ho => ?_)
  obtain ⟨x1, h1, rfl, hT1, hP1, hF1, w1⟩ := ho
  have y1 : h1[149]? = some (cv_cl [y]) := by rw [hF1.1 149 rfl]; exact hy
  have v12 : ri_at h1 111 12 = ri_at h 111 12 := ri_frf hF1 (d := 12) rfl rfl (by decide +kernel)
  have v52 : ri_at h1 111 52 = ri_at h 111 52 := ri_frf hF1 (d := 12) rfl rfl (by decide +kernel)
  refine lg_pop hR (show lg_o 928 .pop 1 0 0 0 = true by decide +kernel) rfl ?_
  refine lg_ld hR (lg_o_ok (show lg_o 929 (.aload_n 2) 1 0 0 0 = true by decide +kernel)) rfl rfl hL.2.2.1 rfl ?_
  refine lg_args hR h2 h0 h6 hl hL [1, 2, 3, 4, 5] 930 _ (by decide +kernel) ?_
  refine lg_cv (as := [cv_i (lg_v xs i 1), cv_i (lg_v xs i 2), cv_i (lg_v xs i 3), cv_i (lg_v xs i 4), cv_i (lg_v xs i 5)]) (ix := 109) (k := 111) (d := 12) (stk := []) hR (lg_o_ok (show lg_o 960 (.invokevirtual 109) 3 238 5 ((12 : Nat) : Int) = true by decide +kernel)) (by decide) hT1 rfl rfl rfl rfl ⟨rfl, rfl⟩ hc hs
    (R := fun o => ∃ (x : Int32) (h' : cv_H), o = (some (cv_i x), h') ∧ cw_T Gn h' ∧ cw_PP Gn h' ∧ cw_Fr cw_Ds cw_sh kk_X12_measure.2.2.2.2.2.1 h1 h' ∧ ((ri_at h1 111 52 = 40 ∨ ¬ ((0 ≤ (lg_v xs i 1).toInt ∧ (lg_v xs i 1).toInt < ri_at h1 111 12) ∧ (0 ≤ (lg_v xs i 2).toInt ∧ (lg_v xs i 2).toInt < 2000) ∧ (0 ≤ (lg_v xs i 3).toInt ∧ (lg_v xs i 3).toInt < 4) ∧ -9999999 ≤ (lg_v xs i 4).toInt ∧ (lg_v xs i 4).toInt ≤ (lg_v xs i 5).toInt ∧ (lg_v xs i 5).toInt ≤ 9999999)) ∧ x.toInt = -1 ∧ ri_at h' 111 52 = ri_at h1 111 52 ∨ (¬ ri_at h1 111 52 = 40 ∧ ((0 ≤ (lg_v xs i 1).toInt ∧ (lg_v xs i 1).toInt < ri_at h1 111 12) ∧ (0 ≤ (lg_v xs i 2).toInt ∧ (lg_v xs i 2).toInt < 2000) ∧ (0 ≤ (lg_v xs i 3).toInt ∧ (lg_v xs i 3).toInt < 4) ∧ -9999999 ≤ (lg_v xs i 4).toInt ∧ (lg_v xs i 4).toInt ≤ (lg_v xs i 5).toInt ∧ (lg_v xs i 5).toInt ≤ 9999999)) ∧ x.toInt = ri_at h1 111 52 ∧ ri_at h' 111 52 = ri_at h1 111 52 + 1))
    (rt_measure (cw_Xok_no2 hX) hT1 hP1 rfl rfl (lg_v xs i 1) (lg_v xs i 2) (lg_v xs i 3) (lg_v xs i 4) (lg_v xs i 5) (fun x h' a p b w => ⟨x, h', rfl, a, p, b, w⟩)) (fun o ho => ?_)
  obtain ⟨x2, h3, rfl, hT3, hP3, hF3, w3'⟩ := ho
  have y3 : h3[149]? = some (cv_cl [y]) := by rw [hF3.1 149 rfl]; exact y1
  have u86 : ri_at h3 86 9 = ri_at h1 86 9 := ri_frf hF3 (d := 3) rfl rfl (by decide +kernel)
  have z2 : cw_at h3 0 2 = cw_at h 0 2 := (hF3.2 0 11 2 rfl (by decide +kernel)).trans (hF1.2 0 11 2 rfl (by decide +kernel))
  have z3 : cw_at h3 0 3 = cw_at h 0 3 := (hF3.2 0 11 3 rfl (by decide +kernel)).trans (hF1.2 0 11 3 rfl (by decide +kernel))
  have z9 : ri_at h3 pl 9 = ri_at h pl 9 := (ri_frf hF3 qq.1 rfl (by decide +kernel)).trans (ri_frf hF1 qq.1 rfl (by decide +kernel))
  have z12 : ri_at h3 111 12 = ri_at h1 111 12 := ri_frf hF3 (d := 12) rfl rfl (by decide +kernel)
  have hE0 : lg_E0 h3 := lg_E0_S (lg_E0_S eE (lg_S0_fr hF1 (by decide +kernel))) (lg_S0_fr hF3 (by decide +kernel))
  have hW : lg_W h3 := ⟨⟨pl, sp, qq, z2.trans w2, z3.trans w3, by omega⟩, by omega⟩
  refine lg_pop hR (show lg_o 963 .pop 1 0 0 0 = true by decide +kernel) rfl ?_
  exact lg_goto (off := 523) hR (by decide +kernel) (by decide +kernel) (kk h3 ⟨Gn, hT3, hP3, ⟨hE0, hW⟩, y, y3⟩)
set_option maxRecDepth 20000 in
theorem lg_c20 (hR : lg_R X G) (hX : cw_Xok X) (h2 : X 2 = some xs) (h0 : 0 ≤ i.toInt) (h6 : i.toInt + 6 ≤ xs.length) (hl : xs.length ≤ 3072) (hL : lg_L L i) (hH : lg_H h) (hc : c ≤ 601024) (hs : n ≤ 7293034) (kk : ∀ h', lg_H h' → G (1487, L, [], h', c, n)) : G (967, L, [], h, c, n) := by
  obtain ⟨Gn, hT, hP, he, y, hy⟩ := hH
  obtain ⟨eE, ⟨⟨pl, sp, qq, w2, w3, w4⟩, w5⟩⟩ := id he
  refine lg_ld hR (lg_o_ok (show lg_o 967 (.aload_n 1) 1 0 0 0 = true by decide +kernel)) rfl rfl hL.2.1 rfl ?_
  refine lg_args hR h2 h0 h6 hl hL [1] 968 _ (by decide +kernel) ?_
  refine lg_cv (as := [cv_i (lg_v xs i 1)]) (ix := 110) (k := 0) (d := 11) (stk := []) hR (lg_o_ok (show lg_o 974 (.invokevirtual 110) 3 136 1 ((11 : Nat) : Int) = true by decide +kernel)) (by decide) hT rfl rfl rfl rfl ⟨rfl, rfl⟩ hc hs
    (R := fun o => ∃ (x : Int32) (h' : cv_H), o = (some (cv_i x), h') ∧ cw_T Gn h' ∧ cw_PP Gn h' ∧ cw_Fr cw_Ds cw_sh kk_X11_strike.2.2.2.2.2.1 h h' ∧ ((ri_at h 86 9 = 40 ∨ ¬ (0 ≤ (lg_v xs i 1).toInt ∧ (lg_v xs i 1).toInt < ri_at h 86 9)) ∧ x.toInt = -1 ∧ ri_at h' 86 9 = ri_at h 86 9 ∨ (¬ ri_at h 86 9 = 40 ∧ (0 ≤ (lg_v xs i 1).toInt ∧ (lg_v xs i 1).toInt < ri_at h 86 9)) ∧ x.toInt = ri_at h 86 9 ∧ ri_at h' 86 9 = ri_at h 86 9 + 1))
    (ct_strike hT hP rfl (lg_v xs i 1) (fun x h' a p b w => ⟨x, h', rfl, a, p, b, w⟩)) (fun o ho => ?_)
  obtain ⟨x1, h1, rfl, hT1, hP1, hF1, w1⟩ := ho
  have y1 : h1[149]? = some (cv_cl [y]) := by rw [hF1.1 149 rfl]; exact hy
  have v12 : ri_at h1 111 12 = ri_at h 111 12 := ri_frf hF1 (d := 12) rfl rfl (by decide +kernel)
  have v52 : ri_at h1 111 52 = ri_at h 111 52 := ri_frf hF1 (d := 12) rfl rfl (by decide +kernel)
  refine lg_pop hR (show lg_o 977 .pop 1 0 0 0 = true by decide +kernel) rfl ?_
  refine lg_ld hR (lg_o_ok (show lg_o 978 (.aload_n 2) 1 0 0 0 = true by decide +kernel)) rfl rfl hL.2.2.1 rfl ?_
  refine lg_args hR h2 h0 h6 hl hL [1] 979 _ (by decide +kernel) ?_
  refine lg_cv (as := [cv_i (lg_v xs i 1)]) (ix := 113) (k := 111) (d := 12) (stk := []) hR (lg_o_ok (show lg_o 985 (.invokevirtual 113) 3 239 1 ((12 : Nat) : Int) = true by decide +kernel)) (by decide) hT1 rfl rfl rfl rfl ⟨rfl, rfl⟩ hc hs
    (R := fun o => ∃ (x : Int32) (h' : cv_H), o = (some (cv_i x), h') ∧ cw_T Gn h' ∧ cw_PP Gn h' ∧ cw_Fr cw_Ds cw_sh kk_X12_strike.2.2.2.2.2.1 h1 h' ∧ ((ri_at h1 111 52 = 40 ∨ ¬ (0 ≤ (lg_v xs i 1).toInt ∧ (lg_v xs i 1).toInt < ri_at h1 111 52)) ∧ x.toInt = -1 ∧ ri_at h' 111 52 = ri_at h1 111 52 ∨ (¬ ri_at h1 111 52 = 40 ∧ (0 ≤ (lg_v xs i 1).toInt ∧ (lg_v xs i 1).toInt < ri_at h1 111 52)) ∧ x.toInt = ri_at h1 111 52 ∧ ri_at h' 111 52 = ri_at h1 111 52 + 1))
    (rt_strike (cw_Xok_no2 hX) hT1 hP1 rfl (lg_v xs i 1) (fun x h' a p b w => ⟨x, h', rfl, a, p, b, w⟩)) (fun o ho => ?_)
  obtain ⟨x2, h3, rfl, hT3, hP3, hF3, w3'⟩ := ho
  have y3 : h3[149]? = some (cv_cl [y]) := by rw [hF3.1 149 rfl]; exact y1
  have u86 : ri_at h3 86 9 = ri_at h1 86 9 := ri_frf hF3 (d := 3) rfl rfl (by decide +kernel)
  have z2 : cw_at h3 0 2 = cw_at h 0 2 := (hF3.2 0 11 2 rfl (by decide +kernel)).trans (hF1.2 0 11 2 rfl (by decide +kernel))
  have z3 : cw_at h3 0 3 = cw_at h 0 3 := (hF3.2 0 11 3 rfl (by decide +kernel)).trans (hF1.2 0 11 3 rfl (by decide +kernel))
  have z9 : ri_at h3 pl 9 = ri_at h pl 9 := (ri_frf hF3 qq.1 rfl (by decide +kernel)).trans (ri_frf hF1 qq.1 rfl (by decide +kernel))
  have z12 : ri_at h3 111 12 = ri_at h1 111 12 := ri_frf hF3 (d := 12) rfl rfl (by decide +kernel)
  have hE0 : lg_E0 h3 := lg_E0_S (lg_E0_S eE (lg_S0_fr hF1 (by decide +kernel))) (lg_S0_fr hF3 (by decide +kernel))
  have hW : lg_W h3 := ⟨⟨pl, sp, qq, z2.trans w2, z3.trans w3, by omega⟩, by omega⟩
  refine lg_pop hR (show lg_o 988 .pop 1 0 0 0 = true by decide +kernel) rfl ?_
  exact lg_goto (off := 498) hR (by decide +kernel) (by decide +kernel) (kk h3 ⟨Gn, hT3, hP3, ⟨hE0, hW⟩, y, y3⟩)
set_option maxRecDepth 20000 in
theorem lg_c21 (hR : lg_R X G) (hX : cw_Xok X) (h2 : X 2 = some xs) (h0 : 0 ≤ i.toInt) (h6 : i.toInt + 6 ≤ xs.length) (hl : xs.length ≤ 3072) (hL : lg_L L i) (hH : lg_H h) (hc : c ≤ 601024) (hs : n ≤ 7293034) (kk : ∀ h', lg_H h' → G (1487, L, [], h', c, n)) : G (992, L, [], h, c, n) := by
  obtain ⟨Gn, hT, hP, he, y, hy⟩ := hH
  obtain ⟨eE, ⟨⟨pl, sp, qq, w2, w3, w4⟩, w5⟩⟩ := id he
  refine lg_ld hR (lg_o_ok (show lg_o 992 (.aload_n 1) 1 0 0 0 = true by decide +kernel)) rfl rfl hL.2.1 rfl ?_
  refine lg_args hR h2 h0 h6 hl hL [1] 993 _ (by decide +kernel) ?_
  refine lg_cv (as := [cv_i (lg_v xs i 1)]) (ix := 114) (k := 0) (d := 11) (stk := []) hR (lg_o_ok (show lg_o 999 (.invokevirtual 114) 3 137 1 ((11 : Nat) : Int) = true by decide +kernel)) (by decide) hT rfl rfl rfl rfl ⟨rfl, rfl⟩ hc hs
    (R := fun o => ∃ (x : Int32) (h' : cv_H), o = (some (cv_i x), h') ∧ cw_T Gn h' ∧ cw_PP Gn h' ∧ cw_Fr cw_Ds cw_sh kk_X11_known.2.2.2.2.2.1 h h' ∧ ((-1 ≤ (lg_v xs i 1).toInt ∧ (lg_v xs i 1).toInt ≤ ri_at h 86 9) ∧ x.toInt = 1 ∧ ri_at h' 86 9 = ri_at h 86 9 ∨ ¬ (-1 ≤ (lg_v xs i 1).toInt ∧ (lg_v xs i 1).toInt ≤ ri_at h 86 9) ∧ x.toInt = 0 ∧ ri_at h' 86 9 = ri_at h 86 9))
    (ct_known hT hP rfl (lg_v xs i 1) (fun x h' a p b w => ⟨x, h', rfl, a, p, b, w⟩)) (fun o ho => ?_)
  obtain ⟨x1, h1, rfl, hT1, hP1, hF1, w1⟩ := ho
  have y1 : h1[149]? = some (cv_cl [y]) := by rw [hF1.1 149 rfl]; exact hy
  have v12 : ri_at h1 111 12 = ri_at h 111 12 := ri_frf hF1 (d := 12) rfl rfl (by decide +kernel)
  have v52 : ri_at h1 111 52 = ri_at h 111 52 := ri_frf hF1 (d := 12) rfl rfl (by decide +kernel)
  refine lg_ld hR (lg_o_ok (show lg_o 1002 (.aload_n 2) 1 0 0 0 = true by decide +kernel)) rfl rfl hL.2.2.1 rfl ?_
  refine lg_args hR h2 h0 h6 hl hL [1] 1003 _ (by decide +kernel) ?_
  refine lg_cv (as := [cv_i (lg_v xs i 1)]) (ix := 118) (k := 111) (d := 12) (stk := [cv_i x1]) hR (lg_o_ok (show lg_o 1009 (.invokevirtual 118) 3 240 1 ((12 : Nat) : Int) = true by decide +kernel)) (by decide) hT1 rfl rfl rfl rfl ⟨rfl, rfl⟩ hc hs
    (R := fun o => ∃ (x : Int32) (h' : cv_H), o = (some (cv_i x), h') ∧ cw_T Gn h' ∧ cw_PP Gn h' ∧ cw_Fr cw_Ds cw_sh kk_X12_known.2.2.2.2.2.1 h1 h' ∧ ((-1 ≤ (lg_v xs i 1).toInt ∧ (lg_v xs i 1).toInt ≤ ri_at h1 111 52) ∧ x.toInt = 1 ∧ ri_at h' 111 52 = ri_at h1 111 52 ∨ ¬ (-1 ≤ (lg_v xs i 1).toInt ∧ (lg_v xs i 1).toInt ≤ ri_at h1 111 52) ∧ x.toInt = 0 ∧ ri_at h' 111 52 = ri_at h1 111 52))
    (rt_known hT1 hP1 rfl (lg_v xs i 1) (fun x h' a p b w => ⟨x, h', rfl, a, p, b, w⟩)) (fun o ho => ?_)
  obtain ⟨x2, h3, rfl, hT3, hP3, hF3, w3'⟩ := ho
  have y3 : h3[149]? = some (cv_cl [y]) := by rw [hF3.1 149 rfl]; exact y1
  have u86 : ri_at h3 86 9 = ri_at h1 86 9 := ri_frf hF3 (d := 3) rfl rfl (by decide +kernel)
  have z2 : cw_at h3 0 2 = cw_at h 0 2 := (hF3.2 0 11 2 rfl (by decide +kernel)).trans (hF1.2 0 11 2 rfl (by decide +kernel))
  have z3 : cw_at h3 0 3 = cw_at h 0 3 := (hF3.2 0 11 3 rfl (by decide +kernel)).trans (hF1.2 0 11 3 rfl (by decide +kernel))
  have z9 : ri_at h3 pl 9 = ri_at h pl 9 := (ri_frf hF3 qq.1 rfl (by decide +kernel)).trans (ri_frf hF1 qq.1 rfl (by decide +kernel))
  have z12 : ri_at h3 111 12 = ri_at h1 111 12 := ri_frf hF3 (d := 12) rfl rfl (by decide +kernel)
  have hE0 : lg_E0 h3 := lg_E0_S (lg_E0_S eE (lg_S0_fr hF1 (by decide +kernel))) (lg_S0_fr hF3 (by decide +kernel))
  have hW : lg_W h3 := ⟨⟨pl, sp, qq, z2.trans w2, z3.trans w3, by omega⟩, by omega⟩
  have ex : x1 = x2 := Int32.toInt_inj.mp (by omega)
  subst ex
  refine hR.1 _ (1012, L, [cv_i x1, cv_i x1], h3, c, n) (1487, L, [], h3, c, n) (lg_o_ok (show lg_o 1012 (.if_icmp .eq 475) 3 0 0 0 = true by decide +kernel)) ?_ (kk h3 ⟨Gn, hT3, hP3, ⟨hE0, hW⟩, y, y3⟩)
  show (bif cv_jmp 1012 475 then some ((bif decide (x1 = x1) then cv_tgt 1012 475 else 1012 + 3), L, [], h3, c, n) else none) = _
  rw [decide_eq_true (rfl : x1 = x1)]
  rfl
theorem lk_X12_look : lg_ko kk_X12_look 218 2 12 := ⟨rfl, rfl, rfl, by decide +kernel, by decide +kernel, by decide +kernel, ⟨rfl, rfl⟩, by decide⟩
theorem lg_c4 (hR : lg_R X G) (hX : cw_Xok X) (h2 : X 2 = some xs) (h0 : 0 ≤ i.toInt) (h6 : i.toInt + 6 ≤ xs.length) (hl : xs.length ≤ 3072) (hL : lg_L L i) (hH : lg_H h) (hc : c + 20 ≤ 601024) (hs : n + 200 ≤ 7293034) (kk : ∀ L' h', lg_L L' i → lg_H h' → G (1487, L', [], h', c + 20, n + 200)) : G (360, L, [], h, c, n) := by
  obtain ⟨Gn, hT, hP, he, y, hy⟩ := hH
  refine lg_ld hR (lg_o_ok (show lg_o 360 (.aload_n 1) 1 0 0 0 = true by decide +kernel)) rfl rfl hL.2.1 rfl ?_
  refine lg_args hR h2 h0 h6 hl hL [1, 2] 361 _ (by decide +kernel) ?_
  refine lg_ld hR (lg_o_ok (show lg_o 373 (.aload_n 3) 1 0 0 0 = true by decide +kernel)) rfl rfl hL.2.2.2.1 rfl ?_
  refine hR.2.2.2.1 L h c n (lg_v xs i 1) (lg_v xs i 2) Gn y hT hP hy hc hs (fun x h1 y1 hT1 hP1 t1 hy1 => ?_)
  refine hR.1 _ (377, L, [cv_i x], h1, c + 20, n + 200) (379, cv_set L 5 (cv_i x), [], h1, c + 20, n + 200) (lg_o_ok (show lg_o 377 (.istore 5) 2 0 0 0 = true by decide +kernel)) rfl ?_
  have hL1 : lg_L (cv_set L 5 (cv_i x)) i := lg_L_set (by decide) hL
  refine lg_callK (pc := 379) (js := [1, 2]) (lv := 2) (ix := 44) (p1 := 395) hR hX h2 h0 h6 hl hL1 ⟨Gn, hT1, hP1, lg_E_S he t1, y1, hy1⟩ hc hs (by decide +kernel) hL1.2.2.1 (k := 111) rfl (by decide) rfl (fun Gn => hz_X12_look) lk_X12_look rfl (fun Gn o ho hH2 => ?_)
  obtain ⟨x2, h3, rfl, -⟩ := po_int ho rfl
  refine hR.1 _ (395, cv_set L 5 (cv_i x), [cv_i x2], h3, c + 20, n + 200) (397, cv_set (cv_set L 5 (cv_i x)) 6 (cv_i x2), [], h3, c + 20, n + 200) (lg_o_ok (show lg_o 395 (.istore 6) 2 0 0 0 = true by decide +kernel)) rfl ?_
  exact lg_goto (off := 1090) hR (by decide +kernel) (by decide +kernel) (kk _ h3 (lg_L_set (by decide) hL1) hH2)
def lg_offs : Array Int := #[160, 233, 258, 283, 320, 360, 397, 422, 447, 484, 509, 534, 571, 584, 621, 682, 719, 768, 817, 854, 927, 952, 977, 1002, 1051, 1088, 1125, 1150, 1175, 1212, 1237, 1286, 1323, 1396, 1409, 1422]
def lg_tgs : List Nat := [200, 273, 298, 323, 360, 400, 437, 462, 487, 524, 549, 574, 611, 624, 661, 722, 759, 808, 857, 894, 967, 992, 1017, 1042, 1091, 1128, 1165, 1190, 1215, 1252, 1277, 1326, 1363, 1436, 1449, 1462, 1487, 1487, 1487, 1487, 1487, 1487, 1487, 1487, 1487, 1487, 1487, 1487, 1487, 1487, 1487, 1487, 1487, 1487, 1487, 1487, 1487, 1487, 1487, 1487, 1487, 1487, 1487, 1487]
def lg_swt (x : Int32) : Option Nat := bif decide (x.toInt < 0) || decide ((35 : Int) < x.toInt) then (bif cv_jmp 40 1447 then some (cv_tgt 40 1447) else none) else
  (match lg_offs[(x.toInt - 0).toNat]? with
  | some off => bif cv_jmp 40 off then some (cv_tgt 40 off) else none
  | none => none)
set_option maxRecDepth 20000 in
theorem lg_sw (x : Int32) : cv_one X (40, .tableswitch 1447 0 35 lg_offs, 160, 0, 0, 0) (40, L, [cv_i x], h, c, n) = (lg_swt x).map (fun t => (t, L, [], h, c, n)) := by
  show (bif decide (x.toInt < 0) || decide ((35 : Int) < x.toInt) then (bif cv_jmp 40 1447 then some (cv_tgt 40 1447, L, [], h, c, n) else none) else
        (match lg_offs[(x.toInt - 0).toNat]? with
        | some off => bif cv_jmp 40 off then some (cv_tgt 40 off, L, [], h, c, n) else none
        | none => none)) = _
  unfold lg_swt
  cases decide (x.toInt < 0) || decide ((35 : Int) < x.toInt) with
  | true =>
    dsimp only [cond_true]
    cases cv_jmp 40 1447 <;> rfl
  | false =>
    dsimp only [cond_false]
    cases lg_offs[(x.toInt - 0).toNat]? with
    | none => rfl
    | some off =>
      dsimp only
      cases cv_jmp 40 off <;> rfl
theorem lg_swk : ∀ k, k < 64 → lg_swt (nI k) = some (lg_tgs.getD k 0) := by
  have h : ((List.range 64).all fun k => decide (lg_swt (nI k) = some (lg_tgs.getD k 0))) = true := by decide +kernel
  intro k hk
  exact of_decide_eq_true (List.all_eq_true.mp h k (List.mem_range.mpr hk))
set_option maxRecDepth 20000 in
theorem lg_turn (hR : lg_R X G) (hX : cw_Xok X) (h2 : X 2 = some xs) (h0 : 0 ≤ i.toInt) (h6 : i.toInt + 6 ≤ xs.length) (hl : xs.length ≤ 3072) (hL : lg_L L i) (hH : lg_H h) (hc : c + 20 ≤ 601024) (hs : n + 200 ≤ 7293034) (kk : ∀ L' h' c' n', lg_L L' i → lg_H h' → c' ≤ c + 20 → n' ≤ n + 200 → G (1487, L', [], h', c', n')) : G (33, L, [], h, c, n) := by
  refine lg_ld hR (lg_o_ok (show lg_o 33 (.aload_n 0) 1 0 0 0 = true by decide +kernel)) rfl rfl hL.1 rfl ?_
  refine lg_ld hR (lg_o_ok (show lg_o 34 (.iload 4) 2 0 0 0 = true by decide +kernel)) rfl rfl hL.2.2.2.2 rfl ?_
  refine lg_iald hR h2 (lg_o_ok (show lg_o 36 .iaload 1 0 0 0 = true by decide +kernel)) h0 (by omega) ?_
  refine hR.1 _ _ (39, L, [cv_i (Int8.ofInt 63).toInt32, cv_i (xs.getD i.toNatClampNeg 0)], h, c, n) (lg_o_ok (show lg_o 37 (.bipush 63) 2 0 0 0 = true by decide +kernel)) rfl ?_
  refine hR.1 _ _ (40, L, [cv_i (xs.getD i.toNatClampNeg 0 &&& (Int8.ofInt 63).toInt32)], h, c, n) (lg_o_ok (show lg_o 39 .iand 1 0 0 0 = true by decide +kernel)) rfl ?_
  rw [show (Int8.ofInt 63).toInt32 = 63 by decide]
  obtain ⟨k, hk, e⟩ := pk_andE (xs.getD i.toNatClampNeg 0) (m := 63) 6 (by decide)
  have hk : k < 64 := hk
  rw [e]
  refine hR.1 _ _ (lg_tgs.getD k 0, L, [], h, c, n) (lg_o_ok (show lg_o 40 (.tableswitch 1447 0 35 lg_offs) 160 0 0 0 = true by decide +kernel)) (by rw [lg_sw, lg_swk k hk]; rfl) ?_
  have hc' : c ≤ 601024 := by omega
  have hs' : n ≤ 7293034 := by omega
  have k0 : ∀ h', lg_H h' → G (1487, L, [], h', c, n) := fun h' hh => kk L h' c n hL hh (by omega) (by omega)
  match k, hk with
  | 0, _ => exact lg_c0 hR hX h2 h0 h6 hl hL hH hc' hs' k0
  | 1, _ => exact lg_c1 hR hX h2 h0 h6 hl hL hH hc' hs' k0
  | 2, _ => exact lg_c2 hR hX h2 h0 h6 hl hL hH hc' hs' k0
  | 3, _ => exact lg_c3 hR hX h2 h0 h6 hl hL hH hc' hs' k0
  | 4, _ => exact lg_c4 hR hX h2 h0 h6 hl hL hH hc hs (fun L' h' a b => kk L' h' _ _ a b (Nat.le_refl _) (Nat.le_refl _))
  | 5, _ => exact lg_c5 hR hX h2 h0 h6 hl hL hH hc' hs' k0
  | 6, _ => exact lg_c6 hR hX h2 h0 h6 hl hL hH hc' hs' k0
  | 7, _ => exact lg_c7 hR hX h2 h0 h6 hl hL hH hc' hs' k0
  | 8, _ => exact lg_c8 hR hX h2 h0 h6 hl hL hH hc' hs' k0
  | 9, _ => exact lg_c9 hR hX h2 h0 h6 hl hL hH hc' hs' k0
  | 10, _ => exact lg_c10 hR hX h2 h0 h6 hl hL hH hc' hs' k0
  | 11, _ => exact lg_c11 hR hX h2 h0 h6 hl hL hH hc' hs' k0
  | 12, _ => exact lg_c12 hR hX h2 h0 h6 hl hL hH hc' hs' k0
  | 13, _ => exact lg_c13 hR hX h2 h0 h6 hl hL hH hc' hs' k0
  | 14, _ => exact lg_c14 hR hX h2 h0 h6 hl hL hH hc' hs' k0
  | 15, _ => exact lg_c15 hR hX h2 h0 h6 hl hL hH hc' hs' k0
  | 16, _ => exact lg_c16 hR hX h2 h0 h6 hl hL hH hc' hs' k0
  | 17, _ => exact lg_c17 hR hX h2 h0 h6 hl hL hH hc' hs' k0
  | 18, _ => exact lg_c18 hR hX h2 h0 h6 hl hL hH hc' hs' k0
  | 19, _ => exact lg_c19 hR hX h2 h0 h6 hl hL hH hc' hs' k0
  | 20, _ => exact lg_c20 hR hX h2 h0 h6 hl hL hH hc' hs' k0
  | 21, _ => exact lg_c21 hR hX h2 h0 h6 hl hL hH hc' hs' k0
  | 22, _ => exact lg_c22 hR hX h2 h0 h6 hl hL hH hc' hs' k0
  | 23, _ => exact lg_c23 hR hX h2 h0 h6 hl hL hH hc' hs' k0
  | 24, _ => exact lg_c24 hR hX h2 h0 h6 hl hL hH hc' hs' k0
  | 25, _ => exact lg_c25 hR hX h2 h0 h6 hl hL hH hc' hs' k0
  | 26, _ => exact lg_c26 hR hX h2 h0 h6 hl hL hH hc' hs' k0
  | 27, _ => exact lg_c27 hR hX h2 h0 h6 hl hL hH hc' hs' k0
  | 28, _ => exact lg_c28 hR hX h2 h0 h6 hl hL hH hc' hs' k0
  | 29, _ => exact lg_c29 hR hX h2 h0 h6 hl hL hH hc' hs' k0
  | 30, _ => exact lg_c30 hR hX h2 h0 h6 hl hL hH hc' hs' k0
  | 31, _ => exact lg_c31 hR hX h2 h0 h6 hl hL hH hc' hs' k0
  | 32, _ => exact lg_c32 hR hX h2 h0 h6 hl hL hH hc' hs' k0
  | 33, _ => exact lg_c33 hR hX h2 h0 h6 hl hL hH hc' hs' k0
  | 34, _ => exact lg_c34 hR hX h2 h0 h6 hl hL hH hc' hs' k0
  | 35, _ => exact lg_c35 hR hX h2 h0 h6 hl hL hH hc' hs' k0
  | 36, _ => exact k0 h hH
  | 37, _ => exact k0 h hH
  | 38, _ => exact k0 h hH
  | 39, _ => exact k0 h hH
  | 40, _ => exact k0 h hH
  | 41, _ => exact k0 h hH
  | 42, _ => exact k0 h hH
  | 43, _ => exact k0 h hH
  | 44, _ => exact k0 h hH
  | 45, _ => exact k0 h hH
  | 46, _ => exact k0 h hH
  | 47, _ => exact k0 h hH
  | 48, _ => exact k0 h hH
  | 49, _ => exact k0 h hH
  | 50, _ => exact k0 h hH
  | 51, _ => exact k0 h hH
  | 52, _ => exact k0 h hH
  | 53, _ => exact k0 h hH
  | 54, _ => exact k0 h hH
  | 55, _ => exact k0 h hH
  | 56, _ => exact k0 h hH
  | 57, _ => exact k0 h hH
  | 58, _ => exact k0 h hH
  | 59, _ => exact k0 h hH
  | 60, _ => exact k0 h hH
  | 61, _ => exact k0 h hH
  | 62, _ => exact k0 h hH
  | 63, _ => exact k0 h hH
  | k + 64, hk => omega
theorem lg_exit (hR : lg_R X G) (hc : c ≤ 601024) (hs : n ≤ 7293034) : G (1493, L, [], h, c, n) := by
  refine hR.1 _ _ (1494, L, [cv_i (Int32.ofInt 1)], h, c, n) (lg_o_ok (show lg_o 1493 (.iconst 1) 1 0 0 0 = true by decide +kernel)) rfl ?_
  exact hR.2.2.2.2 L h c n hc hs
set_option maxRecDepth 20000 in
theorem lg_head (hR : lg_R X G) (h2 : X 2 = some xs) (hl : xs.length ≤ 3072) (h0 : 0 ≤ i.toInt) (h3 : i.toInt ≤ 4000) (kt : (xs.length : Int) < i.toInt + 6 → G (1493, L, [], h, c, n)) (kf : i.toInt + 6 ≤ xs.length → G (33, L, [], h, c, n)) : G (26, L, [cv_s 2, cv_i i], h, c, n) := by
  refine hR.1 _ _ (27, L, [cv_i (Int32.ofNat xs.length), cv_i i], h, c, n) (lg_o_ok (show lg_o 26 .arraylength 1 0 0 0 = true by decide +kernel)) ?_ ?_
  · show Option.map _ (X 2) = _
    rw [h2]
    rfl
  refine hR.1 _ _ (29, L, [cv_i (Int8.ofInt 6).toInt32, cv_i (Int32.ofNat xs.length), cv_i i], h, c, n) (lg_o_ok (show lg_o 27 (.bipush 6) 2 0 0 0 = true by decide +kernel)) rfl ?_
  refine hR.1 _ _ (30, L, [cv_i (Int32.ofNat xs.length - (Int8.ofInt 6).toInt32), cv_i i], h, c, n) (lg_o_ok (show lg_o 29 .isub 1 0 0 0 = true by decide +kernel)) rfl ?_
  have e6 : (Int8.ofInt 6).toInt32.toInt = 6 := by decide
  have en : (Int32.ofNat xs.length).toInt = xs.length := by
    rw [Int32.toInt_ofNat', show (Int32.size : Nat) = 4294967296 from rfl, Int.bmod_eq_of_le (by omega) (by omega)]
  have e : (Int32.ofNat xs.length - (Int8.ofInt 6).toInt32).toInt = (xs.length : Int) - 6 := by rw [Int32.toInt_sub, e6, en, cw_bm (by omega) (by omega)]
  generalize Int32.ofNat xs.length - (Int8.ofInt 6).toInt32 = m at e ⊢
  have h1 : cv_one X (30, .if_icmp .gt 1463, 3, 0, 0, 0) (30, L, [cv_i m, cv_i i], h, c, n) = some ((bif cv_cmp .gt i m then 1493 else 33), L, [], h, c, n) := rfl
  cases hc : cv_cmp .gt i m with
  | true =>
    rw [hc] at h1
    have q : m.toInt < i.toInt := cw_cmp_Z.mp hc
    exact hR.1 _ _ _ (lg_o_ok (show lg_o 30 (.if_icmp .gt 1463) 3 0 0 0 = true by decide +kernel)) h1 (kt (by omega))
  | false =>
    rw [hc] at h1
    have q : ¬ m.toInt < i.toInt := fun q => by rw [cw_cmp_Z.mpr (show cw_cmpZ .gt i.toInt m.toInt from q)] at hc; cases hc
    exact hR.1 _ _ _ (lg_o_ok (show lg_o 30 (.if_icmp .gt 1463) 3 0 0 0 = true by decide +kernel)) h1 (kf (by omega))
/-- every turn, then the end -/
theorem lg_loop (hR : lg_R X G) (hX : cw_Xok X) (h2 : X 2 = some xs) (hl : xs.length ≤ 3072) : ∀ (t : Nat) (L : cv_L) (h : cv_H) (i : Int32) (c n : Nat), lg_L L i → lg_H h → 0 ≤ i.toInt → i.toInt ≤ 4000 → (xs.length : Int) < i.toInt + 6 * t → c + 20 * t ≤ 601024 → n + 200 * t ≤ 7293034 → G (23, L, [], h, c, n) := by
  intro t
  induction t with
  | zero =>
    intro L h i c n hL hH h0 h3 ht hc hs
    refine lg_ld hR (lg_o_ok (show lg_o 23 (.iload 4) 2 0 0 0 = true by decide +kernel)) rfl rfl hL.2.2.2.2 rfl ?_
    refine lg_ld hR (lg_o_ok (show lg_o 25 (.aload_n 0) 1 0 0 0 = true by decide +kernel)) rfl rfl hL.1 rfl ?_
    exact lg_head hR h2 hl h0 h3 (fun _ => lg_exit hR (by omega) (by omega)) (fun q => absurd q (by omega))
  | succ t ih =>
    intro L h i c n hL hH h0 h3 ht hc hs
    refine lg_ld hR (lg_o_ok (show lg_o 23 (.iload 4) 2 0 0 0 = true by decide +kernel)) rfl rfl hL.2.2.2.2 rfl ?_
    refine lg_ld hR (lg_o_ok (show lg_o 25 (.aload_n 0) 1 0 0 0 = true by decide +kernel)) rfl rfl hL.1 rfl ?_
    refine lg_head hR h2 hl h0 h3 (fun _ => lg_exit hR (by omega) (by omega)) (fun h6 => ?_)
    refine lg_turn hR hX h2 h0 h6 hl hL hH (by omega) (by omega) (fun L' h' c' n' hL' hH' hc' hn' => ?_)
    have e6 : (Int32.ofInt 6).toInt = 6 := by decide
    have e : (i + Int32.ofInt 6).toInt = i.toInt + 6 := by rw [Int32.toInt_add, e6, cw_bm (by omega) (by omega)]
    refine hR.1 _ _ (1490, cv_set L' 4 (cv_i (i + Int32.ofInt 6)), [], h', c', n') (lg_o_ok (show lg_o 1487 (.iinc 4 6) 3 0 0 0 = true by decide +kernel)) ?_ ?_
    · show (match cv_get L' 4 with
        | some (.inl x) => _
        | _ => _) = _
      rw [hL'.2.2.2.2]
      rfl
    · refine lg_goto (off := -1467) (t := 23) hR (by decide +kernel) (by decide +kernel) ?_
      exact ih _ h' _ c' n' (lg_L_inc hL') hH' (by omega) (by omega) (by omega) (by omega) (by omega)
end LG
