/-! ===== feed, notes, weeks: both sides ===== -/
section JF
variable {X : cv_X} {Gn : Int} {h h1 h2 : cv_H}
theorem zX_poI {K : cw_K} {R : cv_O → Prop} {k d : Nat} {as : List Int32} (hK : cw_Holds fk_all mt_all cw_Ds cw_sh Gn (cw_PP Gn) K) (hk : cw_sh[k]? = some d) (hd : d < 1000) (k5 : K.2.1 = .inr (.inr d) :: List.replicate as.length (.inl cw_top)) (k6 : K.2.2.2.2.2.2 = []) (hX : cw_Xok X) (hT : cw_T Gn h) (hP : cw_PP Gn h) (a : cw_X X K.1.1 (fun o => cw_Po cw_Ds cw_sh Gn (cw_PP Gn) K (cv_r k :: as.map cv_i) h o → R o) 0 (cv_ent 0 (cv_r k :: as.map cv_i)) [] h) : cw_X X K.1.1 R 0 (cv_ent 0 (cv_r k :: as.map cv_i)) [] h :=
  cw_X_imp (zX_po hK hk hd k5 k6 hX hT hP a) (fun o w => w.1 w.2)
theorem zX_efI {K : cw_K} {E : ef_K} {ie : Nat} {R : cv_O → Prop} {as : List Int32} (k1 : ec_Ks[ie]? = some E) (k2 : E.1 = K.1.1) (k3 : E.2.1 = some [0] :: List.replicate as.length none) (k4 : E.2.2.1 = []) (f1 : ef_fok ec_TF h) (f2 : ef_rok ec_TR h) (a : cw_X X K.1.1 (fun o => ef_Post ec_TF ec_TR E h o → R o) 0 (cv_ent 0 (cv_r 0 :: as.map cv_i)) [] h) : cw_X X K.1.1 R 0 (cv_ent 0 (cv_r 0 :: as.map cv_i)) [] h :=
  cw_X_imp (zX_ef k1 k2 k3 k4 f1 f2 a) (fun o w => w.1 w.2)
theorem fr_slot {G' : Int} {m k d e ci : Nat} {fs : List cw_A} (hT : cw_T Gn h) (hT' : cw_T G' h1) (hF : cw_Fr cw_Ds cw_sh m h h1) (hk : cw_sh[k]? = some d) (hD : cw_Ds[d]? = some (.inr (.inr (.inr (ci, fs))))) (hl : fs.length ≤ 79) (q : (List.range 80).all (fun s => s == e || !cw_bit m d s) = true) {i : Nat} (hi : i ≠ e) : cw_at h1 k i = cw_at h k i := by
  by_cases c : i < 79
  · have := List.all_eq_true.mp q i (List.mem_range.mpr (by omega))
    rw [Bool.or_eq_true, beq_iff_eq, Bool.not_eq_true'] at this
    rcases this with u | u
    · exact absurd u hi
    · exact hF.2 k d i hk (by unfold cw_tch; rw [hD]; exact u)
  · have t1 := hT k d hk
    have t2 := hT' k d hk
    unfold cw_cell at t1 t2
    rw [hD] at t1 t2
    obtain ⟨vs, v1, v2, -⟩ := t1
    obtain ⟨ws, w1, w2, -⟩ := t2
    unfold cw_at
    rw [v1, w1]
    show ws[i]? = vs[i]?
    rw [List.getElem?_eq_none (by omega), List.getElem?_eq_none (by omega)]
theorem sh_11 {k : Nat} (h : cw_sh[k]? = some 11) : k = 0 := by
  have hlt := (List.getElem?_eq_some_iff.mp h).1
  have c : (List.range cw_sh.length).all (fun j => !(cw_sh[j]? == some 11) || j == 0) = true := by decide +kernel
  have := List.all_eq_true.mp c k (List.mem_range.mpr hlt)
  rw [h] at this
  simpa using this
theorem sh_13 {k : Nat} (h : cw_sh[k]? = some 13) : k = 1 := by
  have hlt := (List.getElem?_eq_some_iff.mp h).1
  have c : (List.range cw_sh.length).all (fun j => !(cw_sh[j]? == some 13) || j == 1) = true := by decide +kernel
  have := List.all_eq_true.mp c k (List.mem_range.mpr hlt)
  rw [h] at this
  simpa using this
theorem sh_12 {k : Nat} (h : cw_sh[k]? = some 12) : k = 111 := by
  have hlt := (List.getElem?_eq_some_iff.mp h).1
  have c : (List.range cw_sh.length).all (fun j => !(cw_sh[j]? == some 12) || j == 111) = true := by decide +kernel
  have := List.all_eq_true.mp c k (List.mem_range.mpr hlt)
  rw [h] at this
  simpa using this
theorem sh_51 {k : Nat} (h : cw_sh[k]? = some 51) : k = 112 := by
  have hlt := (List.getElem?_eq_some_iff.mp h).1
  have c : (List.range cw_sh.length).all (fun j => !(cw_sh[j]? == some 51) || j == 112) = true := by decide +kernel
  have := List.all_eq_true.mp c k (List.mem_range.mpr hlt)
  rw [h] at this
  simpa using this
/-- what feed may change of the class, of the reference -/
theorem feed_c (hT : cw_T Gn h) (hT' : cw_T Gn h1) (hF : cw_Fr cw_Ds cw_sh kk_X11_feed.2.2.2.2.2.1 h h1) {k i : Nat} (hk : k < 111) (h1k : k ≠ 1) (h0 : ¬ (k = 0 ∧ i = 1)) : cw_at h1 k i = cw_at h k i := by
  obtain ⟨d, hd, q⟩ := sh_c hk
  by_cases c11 : d = 11
  · subst c11
    have := sh_11 hd
    subst this
    exact fr_slot hT hT' hF (e := 1) (k := 0) (d := 11) rfl rfl (by decide) (by decide +kernel) (by omega)
  by_cases c13 : d = 13
  · subst c13; exact absurd (sh_13 hd) h1k
  have c : (List.range 51).all (fun d => d == 11 || (d == 12 || (d == 13 || lg_nk kk_X11_feed.2.2.2.2.2.1 d))) = true := by decide +kernel
  have u := List.all_eq_true.mp c d (List.mem_range.mpr (by omega))
  simp only [Bool.or_eq_true, beq_iff_eq] at u
  rcases u with u | u | u | u
  · exact absurd u c11
  · omega
  · exact absurd u c13
  · exact fr_same hT hT' hF hd u i
theorem feed_r (hT : cw_T Gn h) (hT' : cw_T Gn h1) (hF : cw_Fr cw_Ds cw_sh kk_X12_feed.2.2.2.2.2.1 h h1) {k i : Nat} (hk : 111 ≤ k) (hk2 : k < 149) (h1k : k ≠ 112) (h0 : ¬ (k = 111 ∧ (i = 1 ∨ i = 2))) : cw_at h1 k i = cw_at h k i := by
  obtain ⟨d, hd, q⟩ := sh_r hk hk2
  by_cases c11 : d = 12
  · subst c11
    have := sh_12 hd
    subst this
    by_cases ci : i < 79
    · have c : (List.range 80).all (fun s => s == 1 || (s == 2 || !cw_bit kk_X12_feed.2.2.2.2.2.1 12 s)) = true := by decide +kernel
      have u := List.all_eq_true.mp c i (List.mem_range.mpr (by omega))
      simp only [Bool.or_eq_true, beq_iff_eq, Bool.not_eq_true'] at u
      rcases u with u | u | u
      · omega
      · omega
      · exact hF.2 111 12 i rfl u
    · have t1 := hT 111 12 rfl
      have t2 := hT' 111 12 rfl
      unfold cw_cell at t1 t2
      dsimp only [cw_Ds] at t1 t2
      obtain ⟨vs, v1, v2, -⟩ := t1
      obtain ⟨ws, w1, w2, -⟩ := t2
      unfold cw_at
      rw [v1, w1]
      show ws[i]? = vs[i]?
      have v2' : vs.length = 69 := v2
      have w2' : ws.length = 69 := w2
      rw [List.getElem?_eq_none (by omega), List.getElem?_eq_none (by omega)]
  by_cases c51 : d = 51
  · subst c51; exact absurd (sh_51 hd) h1k
  have c : (List.range 37).all (fun d => d == 0 || lg_nk kk_X12_feed.2.2.2.2.2.1 (51 + d)) = true := by decide +kernel
  have u := List.all_eq_true.mp c (d - 51) (List.mem_range.mpr (by omega))
  simp only [Bool.or_eq_true, beq_iff_eq] at u
  rcases u with u | u
  · omega
  · rw [show 51 + (d - 51) = d from by omega] at u
    exact fr_same hT hT' hF hd u i
theorem zCE_f {p : zPp} {q : zQs} (e : ∀ k i, k < 111 → k ≠ 1 → ¬ (k = 0 ∧ i = 1) → cw_at h1 k i = cw_at h k i) (hng : zng p ≤ 4) (a : zCE h p q) : zCE h1 p q := by
  have f := a.1
  have cF : ec_TF.all (fun t => Nat.ble (t.1 + 1) 111 && (!(t.1 == 1) && !(t.1 == 0 && t.2.1 == 1))) = true := by decide
  have cR : ec_TR.all (fun t => Nat.ble (t.1 + 1) 111 && (!(t.1 == 1) && !(t.1 == 0))) = true := by decide
  refine zCE_q a hng (fun i u => e 0 i (by omega) (by omega) (by omega)) (fun k i u => e k i (by omega) (by omega) (by omega)) (ef_fok_e (fun t ht => ?_) f.1) (ef_rok_e (fun t ht i => ?_) f.2.1)
  · have u := List.all_eq_true.mp cF t ht
    simp only [Bool.and_eq_true, Nat.ble_eq, Bool.not_eq_true', beq_eq_false_iff_ne, Bool.and_eq_false_iff] at u
    exact e _ _ (by omega) u.2.1 (by rintro ⟨c1, c2⟩; rcases u.2.2 with c | c; exact c c1; exact c c2)
  · have u := List.all_eq_true.mp cR t ht
    simp only [Bool.and_eq_true, Nat.ble_eq, Bool.not_eq_true', beq_eq_false_iff_ne] at u
    exact e _ _ (by omega) u.2.1 (by omega)
theorem zJ_c0 : zJ 107 155 5 true := by
  intro X Gn h as hX ha hT hP he
  match as, ha with
  | [a1, a2, a3, a4, a5], _ =>
  obtain ⟨⟨e1, e2, e3⟩, no, p, q, go, ce, rq⟩ := he
  obtain ⟨cN, hcN⟩ : ∃ cN : Nat, ri_at h 0 1 = cN := by
    obtain ⟨x, -, r1, r2, r3⟩ := ri_fld (k := 0) (d := 11) (f := 1) hT rfl rfl rfl
    dsimp only at r2 r3
    exact ⟨(ri_at h 0 1).toNat, by omega⟩
  refine ct_feed hT a1 a2 a3 a4 a5 hcN (fun x h1 hT1 hF1 w1 => ⟨x, h1, rfl, hT1, hF1.1 149 rfl, ?_⟩)
  have hP1 : cw_PP Gn h1 := pp_fr0 (by decide +kernel) hP hF1
  have s1 := lg_nr_e hT hT1 hF1 (by decide +kernel)
  have t1 : ri_at h1 111 1 = ri_at h 111 1 := ri_eq (s1 111 1 (by decide) (by decide))
  refine rt_feed hT1 a1 a2 a3 a4 a5 (c := cN) (by omega) (fun y h3 hT3 hF3 w3 => ?_)
  have s3 := lg_nc_e hT1 hT3 hF3 (by decide +kernel)
  have t3 : ri_at h3 0 1 = ri_at h1 0 1 := ri_eq (s3 0 1 (by decide))
  have r3 : ∀ k i, 111 ≤ k → k < 149 → k ≠ 112 → ¬ (k = 111 ∧ (i = 1 ∨ i = 2)) → cw_at h3 k i = cw_at h k i := fun k i a b c d => (feed_r hT1 hT3 hF3 a b c d).trans (s1 k i a b)
  refine ⟨y, Gn, h3, rfl, hT3, pp_fr0 (by decide +kernel) hP1 hF3, ⟨⟨by omega, fun i hi => ?_, fun i hi => ?_⟩, zNo_e (fun i _ => (s3 86 i (by decide)).trans (feed_c hT hT1 hF1 (by decide) (by decide) (by omega))) (fun i u => r3 111 i (by decide) (by decide) (by decide) (by omega)) no, p, q, go, zCE_f (fun k i a b c => (s3 k i a).trans (feed_c hT hT1 hF1 a b c)) (zGo_g go).1 ce, zRp_e (fun k i u v => r3 k i (by omega) (by omega) (by omega) (by omega)) (fun i u => r3 111 i (by decide) (by decide) (by decide) (by omega)) rq.1, zRq_e (fun i => r3 130 i (by decide) (by decide) (by decide) (by omega)) (fun i => r3 135 i (by decide) (by decide) (by decide) (by omega)) (fun i => r3 148 i (by decide) (by decide) (by decide) (by omega)) (fun i u => r3 111 i (by decide) (by decide) (by decide) (by omega)) rq.2⟩, (hF3.1 149 rfl).trans (hF1.1 149 rfl), fun _ => Int32.toInt_inj.mp (by omega)⟩
  · have r1 : ri_at h3 1 i = ri_at h1 1 i := ri_eq (s3 1 i (by decide))
    have r2 : ri_at h1 112 i = ri_at h 112 i := ri_eq (s1 112 i (by decide) (by decide))
    rw [r1]
    rcases w1 with ⟨a1, a2, a3, a4⟩ | ⟨a1, a2, a3, a4⟩
    · rcases w3 with ⟨b1, b2, b3, b4⟩ | ⟨b1, b2, b3, b4⟩
      · rw [a4, b4, r2]
        exact e2 i (by omega)
      · omega
    · rcases w3 with ⟨b1, b2, b3, b4⟩ | ⟨b1, b2, b3, b4⟩
      · omega
      · by_cases c : i < cN
        · rw [a4.2 i (.inl c), b4.2 i (.inl c), r2]
          exact e2 i (by omega)
        · have u1 := a4.1 (i - cN) (by omega)
          have u2 := b4.1 (i - cN) (by omega)
          rw [show cN + (i - cN) = i from by omega] at u1 u2
          exact u1.trans u2.symm
  · rw [ri_eq (s3 52 i (by decide)), ri_eq (feed_c hT hT1 hF1 (k := 52) (i := i) (by decide) (by decide) (by omega))]
    exact e3 i hi
/-- slots that notes leave alone -/
abbrev zsn : List Nat := [1, 12, 13, 14, 15, 43, 50, 66, 67]
theorem lg_E_N (a : lg_E h) (z : zQ0 h h1) (r : zQR zsn h1 h2) (n : zNo h2) : lg_E h2 := by
  obtain ⟨a1, -, p, q, a2, a3, a4⟩ := a
  obtain ⟨z1, z2, z4, z5⟩ := z
  obtain ⟨r1, r2, r3⟩ := r
  have hi4 : ∀ i, i = 12 ∨ i = 13 ∨ i = 14 ∨ i = 15 → cw_at h2 111 i = cw_at h 111 i := fun i hi => (r3 i (by simp only [List.mem_cons, List.not_mem_nil, or_false]; omega)).trans (z1 111 i (by decide) (by decide))
  refine ⟨zTa_e (fun k i hk => ?_) a1, n, p, q, a2, zCE_r r1 (zGo_g a2).1 (zCE_q a3 (zGo_g a2).1 (fun i _ => z2 0 i (by omega)) (fun k i u => z2 k i (by omega)) z4 z5), zRp_e (fun k i u v => (r2 k i (by omega)).trans (z1 k i (by omega) (by omega))) hi4 a4.1, zRq_e (fun i => (r2 130 i (by omega)).trans (z1 130 i (by decide) (by decide))) (fun i => (r2 135 i (by omega)).trans (z1 135 i (by decide) (by decide))) (fun i => (r2 148 i (by omega)).trans (z1 148 i (by decide) (by decide))) (fun i hi => (r3 i (by simp only [List.mem_cons, List.not_mem_nil, or_false]; omega)).trans (z1 111 i (by decide) (by decide))) a4.2⟩
  rcases hk with ⟨rfl, rfl⟩ | ⟨rfl, rfl⟩ | rfl | rfl | rfl
  · exact (r1 0 1 (by decide)).trans (z2 0 1 (by omega))
  · exact (r3 1 (by decide)).trans (z1 111 1 (by decide) (by decide))
  · exact (r1 1 i (by decide)).trans (z2 1 i (by omega))
  · exact (r2 112 i (by omega)).trans (z1 112 i (by decide) (by decide))
  · exact (r1 52 i (by decide)).trans (z2 52 i (by omega))
theorem zq0 {m : Nat} {E : ef_K} {o : Option cv_V} (hT : cw_T Gn h) (hT1 : cw_T Gn h1) (hF : cw_Fr cw_Ds cw_sh m h h1) (b : lg_nr m = true) (w : zWn E.2.2.2.2.2 = true) (fp : ef_Post ec_TF ec_TR E h (o, h1)) : zQ0 h h1 := ⟨lg_nr_e hT hT1 hF b, fun k i u => fp.2.2.2.1 k i (zWn_no w u), fp.1, fp.2.1⟩
theorem zqR {G' : Int} {m : Nat} {sl : List Nat} (hT : cw_T Gn h) (hT1 : cw_T G' h1) (hF : cw_Fr cw_Ds cw_sh m h h1) (b : lg_qr sl m = true) : zQR sl h h1 := by
  unfold lg_qr at b
  rw [Bool.and_eq_true, Bool.and_eq_true, List.all_eq_true, List.all_eq_true] at b
  obtain ⟨b1, b2, b3⟩ := b
  refine ⟨lg_nc_e hT hT1 hF b1, fun k i u => ?_, fun i u => ?_⟩
  · have c : ∀ j : Fin 38, (111 + j.1 = 111 ∨ 111 + j.1 = 128 ∨ 111 + j.1 = 129 ∨ 131 ≤ 111 + j.1 ∧ 111 + j.1 ≤ 134 ∨ 136 ≤ 111 + j.1 ∧ 111 + j.1 ≤ 147) ∨ ∃ d, d ∈ ([51, 52, 53, 54, 55, 56, 57, 58, 59, 60, 61, 62, 63, 64, 65, 66, 69, 74, 87] : List Nat) ∧ cw_sh[111 + j.1]? = some d := by decide +kernel
    rcases c ⟨k - 111, by omega⟩ with c | ⟨d, hd, hs⟩
    · dsimp only at c; omega
    · dsimp only at hs
      rw [show 111 + (k - 111) = k from by omega] at hs
      exact fr_same hT hT1 hF hs (b3 d hd) i
  · have := b2 i u
    rw [Bool.not_eq_true'] at this
    exact hF.2 111 12 i rfl this
theorem zJ_c19 : zJ 135 238 5 true := by
  intro X Gn h as hX ha hT hP he
  match as, ha with
  | [g, w, q, lo, hi], _ =>
  have he0 := he
  obtain ⟨-, no, p, qq, go, ⟨⟨f1, f2, -⟩, b, cp, -⟩, rp, -⟩ := he
  have hb4 : cw_sh[b]? = some 4 := (zKi cp.1).1
  refine zX_efI (K := kk_X11_measure) (E := ec_X11_measure_0) (ie := 178) (as := [g, w, q, lo, hi]) rfl rfl rfl rfl f1 f2 ?_
  refine ct_measure hT hP hb4 cp.2.1 cp.2.2.2.1.1 rfl g w q lo hi (fun x h1 hT1 hP1 hF1 w1 fp => ⟨x, h1, rfl, hT1, hF1.1 149 rfl, ?_⟩)
  have z := zq0 hT hT1 hF1 (by decide +kernel) (by decide) fp
  have e52 : ri_at h1 111 52 = ri_at h 111 52 := ri_eq (z.1 111 52 (by decide) (by decide))
  have e12 : ri_at h1 111 12 = ri_at h 111 12 := ri_eq (z.1 111 12 (by decide) (by decide))
  refine rt_measure hX hT1 hP1 (e12.trans rp.1.1) e52 g w q lo hi (fun y h2 hT2 hP2 hF2 w2 => ?_)
  have r := zqR (sl := zsn) hT1 hT2 hF2 (by decide +kernel)
  have u86 : ri_at h2 86 9 = ri_at h1 86 9 := ri_eq (r.1 86 9 (by decide))
  have v86 : ri_at h2 86 10 = ri_at h1 86 10 := ri_eq (r.1 86 10 (by decide))
  have x86 : ri_at h1 86 10 = ri_at h 86 10 := ri_eq (fp.2.2.2.1 86 10 (by decide))
  have y53 : ri_at h2 111 53 = ri_at h1 111 53 := ri_frf hF2 (k := 111) (d := 12) rfl rfl (by decide +kernel)
  have x53 : ri_at h1 111 53 = ri_at h 111 53 := ri_eq (z.1 111 53 (by decide) (by decide))
  have n1 := no.1
  have n2 := no.2
  exact ⟨y, Gn, h2, rfl, hT2, hP2, lg_E_N he0 z r ⟨by omega, by omega⟩, (hF2.1 149 rfl).trans (hF1.1 149 rfl), fun _ => Int32.toInt_inj.mp (by omega)⟩
theorem zJ_c20 : zJ 136 239 1 true := by
  intro X Gn h as hX ha hT hP he
  match as, ha with
  | [m], _ =>
  have he0 := he
  obtain ⟨-, no, p, qq, go, ⟨⟨f1, f2, -⟩, b, cp, -⟩, rp, -⟩ := he
  refine zX_efI (K := kk_X11_strike) (E := ec_X11_strike_0) (ie := 180) (as := [m]) rfl rfl rfl rfl f1 f2 ?_
  refine ct_strike hT hP rfl m (fun x h1 hT1 hP1 hF1 w1 fp => ⟨x, h1, rfl, hT1, hF1.1 149 rfl, ?_⟩)
  have z := zq0 hT hT1 hF1 (by decide +kernel) (by decide) fp
  have e52 : ri_at h1 111 52 = ri_at h 111 52 := ri_eq (z.1 111 52 (by decide) (by decide))
  refine rt_strike hX hT1 hP1 e52 m (fun y h2 hT2 hP2 hF2 w2 => ?_)
  have r := zqR (sl := zsn) hT1 hT2 hF2 (by decide +kernel)
  have u86 : ri_at h2 86 9 = ri_at h1 86 9 := ri_eq (r.1 86 9 (by decide))
  have v86 : ri_at h2 86 10 = ri_at h1 86 10 := ri_eq (r.1 86 10 (by decide))
  have x86 : ri_at h1 86 10 = ri_at h 86 10 := ri_eq (fp.2.2.2.1 86 10 (by decide))
  have y53 : ri_at h2 111 53 = ri_at h1 111 53 := ri_frf hF2 (k := 111) (d := 12) rfl rfl (by decide +kernel)
  have x53 : ri_at h1 111 53 = ri_at h 111 53 := ri_eq (z.1 111 53 (by decide) (by decide))
  have n1 := no.1
  have n2 := no.2
  exact ⟨y, Gn, h2, rfl, hT2, hP2, lg_E_N he0 z r ⟨by omega, by omega⟩, (hF2.1 149 rfl).trans (hF1.1 149 rfl), fun _ => Int32.toInt_inj.mp (by omega)⟩
theorem zJ_c21 : zJ 137 240 1 true := by
  intro X Gn h as hX ha hT hP he
  match as, ha with
  | [m], _ =>
  have he0 := he
  obtain ⟨-, no, p, qq, go, ⟨⟨f1, f2, -⟩, b, cp, -⟩, rp, -⟩ := he
  have c0 : 0 ≤ ri_at h 86 9 ∧ ri_at h 86 9 ≤ 40 := by
    obtain ⟨x, -, r1, r2, r3⟩ := ri_fld (k := 86) (d := 3) (f := 9) hT rfl rfl rfl
    dsimp only at r2 r3
    omega
  refine zX_poI (K := kk_X11_known) hz_X11_known (k := 0) (d := 11) (as := [m]) rfl (by decide) rfl rfl hX hT hP ?_
  refine zX_efI (K := kk_X11_known) (E := ec_X11_known_0) (ie := 181) (as := [m]) rfl rfl rfl rfl f1 f2 ?_
  have fin : ∀ (x : Int32) (h1 : cv_H), cw_T Gn h1 → (x.toInt = 0 ∧ ¬ (-1 ≤ m.toInt ∧ m.toInt ≤ ri_at h 86 9) ∧ ri_at h1 86 9 = ri_at h 86 9 ∧ ri_at h1 86 10 = ri_at h 86 10 ∨ x.toInt = 1 ∧ (-1 ≤ m.toInt ∧ m.toInt ≤ ri_at h 86 9) ∧ ri_at h1 86 9 = ri_at h 86 9 ∧ ri_at h1 86 10 = m.toInt) → ef_Post ec_TF ec_TR ec_X11_known_0 h (some (cv_i x), h1) → cw_Po cw_Ds cw_sh Gn (cw_PP Gn) kk_X11_known (cv_r 0 :: [m].map cv_i) h (some (cv_i x), h1) → ∃ (x' : Int32) (h1' : cv_H), (some (cv_i x), h1) = (some (cv_i x'), h1') ∧ cw_T Gn h1' ∧ h1'[149]? = h[149]? ∧ cw_X X 240 (fun o => ∃ (y : Int32) (G2 : Int) (h2 : cv_H), o = (some (cv_i y), h2) ∧ cw_T G2 h2 ∧ cw_PP G2 h2 ∧ lg_E h2 ∧ h2[149]? = h[149]? ∧ (true = true → x' = y)) 0 (cv_ent 0 (cv_r 111 :: [m].map cv_i)) [] h1' := by
    intro x h1 hT1 w1 fp po
    have hP1 : cw_PP Gn h1 := po.2.1.2
    have hF1 : cw_Fr cw_Ds cw_sh kk_X11_known.2.2.2.2.2.1 h h1 := po.2.2.1
    refine ⟨x, h1, rfl, hT1, hF1.1 149 rfl, ?_⟩
    have z := zq0 hT hT1 hF1 (by decide +kernel) (by decide) fp
    have e52 : ri_at h1 111 52 = ri_at h 111 52 := ri_eq (z.1 111 52 (by decide) (by decide))
    have e53 : ri_at h1 111 53 = ri_at h 111 53 := ri_eq (z.1 111 53 (by decide) (by decide))
    have n1 := no.1
    have n2 := no.2
    refine zX_poI (K := kk_X12_known) hz_X12_known (k := 111) (d := 12) (as := [m]) rfl (by decide) rfl rfl hX hT1 hP1 ?_
    have e52' : ri_at h1 111 52 = ri_at h 86 9 := by omega
    refine rq_known hT1 e52' c0 m (fun y h2 hT2 ey cy wy po2 => ?_) (fun cy y h2 hT2 ey k1 k2 k3 po2 => ?_)
    · have hF2 : cw_Fr cw_Ds cw_sh kk_X12_known.2.2.2.2.2.1 h1 h2 := po2.2.2.1
      have r := zqR (sl := zsn) hT1 hT2 hF2 (by decide +kernel)
      obtain ⟨z0, wz⟩ := wy
      have a1 : ri_at h2 111 52 = ri_at h1 111 52 := ri_ne wz (.inr (by decide))
      have a2 : ri_at h2 111 53 = ri_at h1 111 53 := ri_ne wz (.inr (by decide))
      have a3 : ri_at h2 86 9 = ri_at h1 86 9 := ri_eq (r.1 86 9 (by decide))
      have a4 : ri_at h2 86 10 = ri_at h1 86 10 := ri_eq (r.1 86 10 (by decide))
      exact ⟨y, Gn, h2, rfl, hT2, po2.2.1.2, lg_E_N he0 z r ⟨by omega, by omega⟩, (hF2.1 149 rfl).trans (hF1.1 149 rfl), fun _ => Int32.toInt_inj.mp (by omega)⟩
    · have hF2 : cw_Fr cw_Ds cw_sh kk_X12_known.2.2.2.2.2.1 h1 h2 := po2.2.2.1
      have r := zqR (sl := zsn) hT1 hT2 hF2 (by decide +kernel)
      have a1 : ri_at h2 111 52 = ri_at h1 111 52 := ri_eq (k2 52 (by decide) (by decide))
      have a3 : ri_at h2 86 9 = ri_at h1 86 9 := ri_eq (r.1 86 9 (by decide))
      have a4 : ri_at h2 86 10 = ri_at h1 86 10 := ri_eq (r.1 86 10 (by decide))
      exact ⟨y, Gn, h2, rfl, hT2, po2.2.1.2, lg_E_N he0 z r ⟨by omega, by omega⟩, (hF2.1 149 rfl).trans (hF1.1 149 rfl), fun _ => Int32.toInt_inj.mp (by omega)⟩
  refine cq_known hT rfl c0 m (fun x ex cx fp po => fin x h hT (.inl ⟨ex, cx, rfl, rfl⟩) fp po) (fun cx x h1 hT1 ex wx fp po => fin x h1 hT1 (.inr ⟨ex, cx, ri_ne wx (.inr (by decide)), ri_self wx⟩) fp po)
/-- a gate's numbers from the fourth on stay over weeks -/
theorem gPs_j {T g : Nat → Int} {LL : Nat → Option (List Int)} : ∀ {n : Nat} {w : Int} {γ : Nat → Int} {j : Nat}, 4 ≤ j → gPs T g LL n w γ j = γ j
  | 0, w, γ, j, hj => rfl
  | n + 1, w, γ, j, hj => (gPs_j (n := n) (γ := gWk T g LL w γ) hj).trans (by unfold gWk gGrow; rw [zgU_ne (by omega), zgU_ne (by omega), zgU_ne (by omega)])
theorem zCE_w {p : zPp} {q : zQs} {W' : Int} {γs' : Nat → Nat → Int} (a : zCE h p q) (hng : zng p ≤ 4) (fr : ef_fr ec_X11_weeks_0.2.2.2.2.2 h h1) (f1 : ef_fok ec_TF h1) (f2 : ef_rok ec_TR h1) (hW : ri_at h1 0 8 = W') (hγ : ∀ g, g < zng p → ∀ j, 4 ≤ j → γs' g j = q.2.1 g j) : zCE h1 p (W', γs', q.2.2) := by
  obtain ⟨⟨-, -, r3, r4, r5⟩, b, cp, Bf, γc, υc, ιc, a1, a2, a3, a4, a5, a6, a7, a8⟩ := a
  have hb := cp.1
  have m0 : ∀ k i, (1 ≤ k ∧ k ≤ 54 ∨ 59 ≤ k ∧ k ≤ 102) → cw_at h1 k i = cw_at h k i := fun k i u => fr k i (by
    refine ef_may_no (List.all_eq_true.mpr (fun w hw => ?_))
    have c : ec_X11_weeks_0.2.2.2.2.2.all (fun w => w.1 == 0 || ((Nat.ble 55 w.1 && Nat.ble w.1 58) || Nat.ble 103 w.1)) = true := by decide
    have q := List.all_eq_true.mp c w hw
    simp only [Bool.or_eq_true, Bool.and_eq_true, Nat.ble_eq, beq_iff_eq] at q
    rw [Bool.not_eq_true', beq_eq_false_iff_ne]
    omega)
  have m1 : ∀ k i, (k = 104 ∨ k = 106 ∨ k = 108 ∨ k = 110) → cw_at h1 k i = cw_at h k i := fun k i u => fr k i (by rcases u with rfl | rfl | rfl | rfl <;> exact ef_may_no (by decide))
  have m2 : ∀ i, i = 2 ∨ i = 3 ∨ i = 10 → cw_at h1 0 i = cw_at h 0 i := fun i u => fr 0 i (by rcases u with rfl | rfl | rfl <;> decide)
  have m3 : ∀ g j, g < 4 → (j = 0 ∨ 4 ≤ j ∧ j ≤ 16) → cw_at h1 (103 + 2 * g) j = cw_at h (103 + 2 * g) j := fun g j hg u => fr _ j (by
    have c : ∀ g : Fin 4, ∀ j : Fin 17, (j.1 = 0 ∨ 4 ≤ j.1) → ef_may ec_X11_weeks_0.2.2.2.2.2 (103 + 2 * g.1) j.1 = false := by decide
    exact c ⟨g, hg⟩ ⟨j, by omega⟩ (by show j = 0 ∨ 4 ≤ j; omega))
  refine ⟨⟨f1, f2, fun g hg => ⟨(m0 61 g (by omega)).trans (r3 g hg).1, (m0 62 g (by omega)).trans (r3 g hg).2⟩, zPM_a (.inl rfl) (fun k i u v => m0 k i (by omega)) r4, zPM_a (.inr rfl) (fun k i u v => m0 k i (by omega)) r5⟩, b, zCp_e (fun i u => m2 i (by omega)) (fun k i u v => m0 k i (by omega)) hng cp, Bf, fun g j => ri_at h1 (103 + 2 * g) j, υc, ιc, fun g hg => ⟨fun j hj => rfl, (m3 g 0 (by omega) (.inl rfl)).trans (a1 g hg).2⟩, fun g hg j hj hj2 => ?_, zUB_a (fun k i u v => m0 k i (by omega)) a3, zUS_a (fun k i u v => m0 k i (by omega)) a3 a4, a5, hW, (ri_eq (m2 10 (by omega))).trans a7, fun c g hg => ?_⟩
  · have hj4 : 4 ≤ j := hj
    show ri_at h1 (103 + 2 * g) j = γs' g j
    rw [hγ g hg j hj4]
    exact (ri_eq (m3 g j (by omega) (.inr ⟨hj4, hj2⟩))).trans (((a1 g hg).1 j ⟨by omega, hj2⟩).trans (a2 g hg j hj hj2))
  · obtain ⟨c1, c2, c3⟩ := a8 c g hg
    have e := fun i => m1 (104 + 2 * g) i (by omega)
    exact ⟨zGV_a e c1, (e 0).trans c2, c3⟩
end JF
