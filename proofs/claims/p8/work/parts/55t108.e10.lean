/-! ===== what a call leaves alone, by masks and by cells ===== -/
theorem fr_same {G G' : Int} {h h' : cv_H} {m k d : Nat} (hT : cw_T G h) (hT' : cw_T G' h') (hF : cw_Fr cw_Ds cw_sh m h h') (hk : cw_sh[k]? = some d) (q : (List.range 80).all (fun s => !cw_bit m d s) = true) (i : Nat) : cw_at h' k i = cw_at h k i := by
  have bz : ∀ s, s < 80 → cw_bit m d s = false := fun s hs => by
    have := List.all_eq_true.mp q s (List.mem_range.mpr hs)
    rwa [Bool.not_eq_true'] at this
  have t1 := hT k d hk
  have t2 := hT' k d hk
  unfold cw_cell at t1 t2
  cases hD : cw_Ds[d]? with
  | none => rw [hD] at t1; exact t1.elim
  | some D =>
    have cD : cw_Ds.all (fun D => match D with
      | .inl (_, _, p, _) => Nat.ble 1 p && Nat.ble p 70
      | .inr (.inr (.inr (_, fs))) => Nat.ble fs.length 79
      | _ => true) = true := by decide
    have mD := List.all_eq_true.mp cD D (List.mem_of_getElem? hD)
    rw [hD] at t1 t2
    rcases D with ⟨t, n, p, rs⟩ | n | ⟨t, n, d'⟩ | ⟨ci, fs⟩
    · refine hF.2 k d i hk ?_
      unfold cw_tch
      rw [hD]
      dsimp only at mD ⊢
      rw [Bool.and_eq_true, Nat.ble_eq, Nat.ble_eq] at mD
      have := Nat.mod_lt i (y := p) (by omega)
      rw [bz 0 (by decide), bz (1 + i % p) (by omega)]
      rfl
    · exact hF.2 k d i hk (by unfold cw_tch; rw [hD]; exact bz 0 (by decide))
    · exact hF.2 k d i hk (by unfold cw_tch; rw [hD]; exact bz 0 (by decide))
    · by_cases c : i < 79
      · exact hF.2 k d i hk (by unfold cw_tch; rw [hD]; exact bz i (by omega))
      · dsimp only at mD t1 t2
        rw [Nat.ble_eq] at mD
        obtain ⟨vs, v1, v2, -⟩ := t1
        obtain ⟨ws, w1, w2, -⟩ := t2
        unfold cw_at
        rw [v1, w1]
        show ws[i]? = vs[i]?
        rw [List.getElem?_eq_none (by omega), List.getElem?_eq_none (by omega)]
def lg_nk (m d : Nat) : Bool := (List.range 80).all (fun s => !cw_bit m d s)
/-- nothing of the class, nothing of the reference -/
def lg_nc (m : Nat) : Bool := (List.range 12).all (lg_nk m) && (List.range 38).all (fun d => lg_nk m (13 + d))
def lg_nr (m : Nat) : Bool := lg_nk m 12 && (List.range 37).all (fun d => lg_nk m (51 + d))
section NF
variable {G G' : Int} {h h' : cv_H} {m : Nat}
theorem lg_nc_e (hT : cw_T G h) (hT' : cw_T G' h') (hF : cw_Fr cw_Ds cw_sh m h h') (b : lg_nc m = true) : ∀ k i, k < 111 → cw_at h' k i = cw_at h k i := by
  intro k i hk
  unfold lg_nc at b
  rw [Bool.and_eq_true] at b
  obtain ⟨d, hd, q⟩ := sh_c hk
  refine fr_same hT hT' hF hd ?_ i
  rcases q with q | q
  · exact List.all_eq_true.mp b.1 d (List.mem_range.mpr (by omega))
  · have := List.all_eq_true.mp b.2 (d - 13) (List.mem_range.mpr (by omega))
    rwa [show 13 + (d - 13) = d from by omega] at this
theorem lg_nr_e (hT : cw_T G h) (hT' : cw_T G' h') (hF : cw_Fr cw_Ds cw_sh m h h') (b : lg_nr m = true) : ∀ k i, 111 ≤ k → k < 149 → cw_at h' k i = cw_at h k i := by
  intro k i hk hk2
  unfold lg_nr at b
  rw [Bool.and_eq_true] at b
  obtain ⟨d, hd, q⟩ := sh_r hk hk2
  refine fr_same hT hT' hF hd ?_ i
  rcases q with q | q
  · subst q; exact b.1
  · have := List.all_eq_true.mp b.2 (d - 51) (List.mem_range.mpr (by omega))
    rwa [show 51 + (d - 51) = d from by omega] at this
end NF
/-- both sides hold the same tape; the class's words -/
def zTa (h : cv_H) : Prop := ri_at h 0 1 = ri_at h 111 1 ∧ (∀ i : Nat, (i : Int) < ri_at h 0 1 → ri_at h 1 i % 256 = ri_at h 112 i) ∧ ∀ i, i < 34 → ri_at h 52 i = tz_wc.getD i 0
def lg_E (h : cv_H) : Prop := zTa h ∧ zST h
/-- what a query of the class leaves alone -/
def zQC (h h' : cv_H) : Prop := (∀ k i, 111 ≤ k → k < 149 → cw_at h' k i = cw_at h k i) ∧ (∀ k i, (k ≤ 54 ∨ 59 ≤ k ∧ k ≤ 85 ∨ 103 ≤ k ∧ k < 111) → cw_at h' k i = cw_at h k i) ∧ (∀ i, i = 9 ∨ i = 10 → cw_at h' 86 i = cw_at h 86 i) ∧ ef_fok ec_TF h' ∧ ef_rok ec_TR h'
/-- what a query of the reference leaves alone -/
def zQR (sl : List Nat) (h h' : cv_H) : Prop := (∀ k i, k < 111 → cw_at h' k i = cw_at h k i) ∧ (∀ k i, (112 ≤ k ∧ k ≤ 127 ∨ k = 130 ∨ k = 135 ∨ k = 148) → cw_at h' k i = cw_at h k i) ∧ ∀ i, i ∈ sl → cw_at h' 111 i = cw_at h 111 i
abbrev zsl : List Nat := [1, 12, 13, 14, 15, 43, 50, 52, 53, 66, 67]
/-- the same but for the notes -/
def zQ0 (h h' : cv_H) : Prop := (∀ k i, 111 ≤ k → k < 149 → cw_at h' k i = cw_at h k i) ∧ (∀ k i, (k ≤ 54 ∨ 59 ≤ k ∧ k ≤ 85 ∨ 103 ≤ k ∧ k < 111) → cw_at h' k i = cw_at h k i) ∧ ef_fok ec_TF h' ∧ ef_rok ec_TR h'
section QF
variable {h h' : cv_H} {p : zPp} {q : zQs}
theorem zTa_e (e : ∀ k i, (k = 0 ∧ i = 1 ∨ k = 111 ∧ i = 1 ∨ k = 1 ∨ k = 112 ∨ k = 52) → cw_at h' k i = cw_at h k i) (a : zTa h) : zTa h' := by
  have e1 : ri_at h' 0 1 = ri_at h 0 1 := ri_eq (e 0 1 (by decide))
  refine ⟨e1.trans (a.1.trans (ri_eq (e 111 1 (by decide))).symm), fun i hi => ?_, fun i hi => (ri_eq (e 52 i (by omega))).trans (a.2.2 i hi)⟩
  rw [ri_eq (e 1 i (by omega)), ri_eq (e 112 i (by omega))]
  exact a.2.1 i (by rw [← e1]; exact hi)
theorem zNo_e (e : ∀ i, i = 9 ∨ i = 10 → cw_at h' 86 i = cw_at h 86 i) (e2 : ∀ i, i = 52 ∨ i = 53 → cw_at h' 111 i = cw_at h 111 i) (a : zNo h) : zNo h' := ⟨(ri_eq (e 9 (.inl rfl))).trans (a.1.trans (ri_eq (e2 52 (.inl rfl))).symm), (ri_eq (e 10 (.inr rfl))).trans (a.2.trans (ri_eq (e2 53 (.inr rfl))).symm)⟩
theorem zPM_a {b : Nat} (hb : b = 2 ∨ b = 26) (e : ∀ k i, 2 ≤ k → k ≤ 49 → cw_at h' k i = cw_at h k i) (a : zPM b h) : zPM b h' := ⟨fun i hi => (e b i (by omega) (by omega)).trans (a.1 i hi), fun i hi => (e (b + 6) i (by omega) (by omega)).trans (a.2 i hi)⟩
theorem zCE_q (a : zCE h p q) (hng : zng p ≤ 4) (e0 : ∀ i, i = 2 ∨ i = 3 ∨ i = 8 ∨ i = 10 → cw_at h' 0 i = cw_at h 0 i) (e : ∀ k i, (2 ≤ k ∧ k ≤ 49 ∨ 61 ≤ k ∧ k ≤ 85 ∨ 103 ≤ k ∧ k < 111) → cw_at h' k i = cw_at h k i) (f1 : ef_fok ec_TF h') (f2 : ef_rok ec_TR h') : zCE h' p q := by
  obtain ⟨⟨r1, r2, r3, r4, r5⟩, b, b1, b2⟩ := a
  have hb := b1.1
  exact ⟨⟨f1, f2, fun g hg => ⟨(e _ _ (by omega)).trans (r3 g hg).1, (e _ _ (by omega)).trans (r3 g hg).2⟩, zPM_a (.inl rfl) (fun k i u v => e k i (.inl ⟨u, v⟩)) r4, zPM_a (.inr rfl) (fun k i u v => e k i (.inl ⟨u, v⟩)) r5⟩, b, zCp_e (fun i u => e0 i (by omega)) (fun k i u v => e k i (by omega)) hng b1, zCd_e (fun i u => e0 i (by omega)) (fun k i u v => e k i (by omega)) (fun k i u v => e k i (by omega)) hng b2⟩
theorem lg_E_C (a : lg_E h) (z : zQC h h') : lg_E h' := by
  obtain ⟨a1, n, p, q, a2, a3, a4⟩ := a
  obtain ⟨z1, z2, z3, z4, z5⟩ := z
  refine ⟨zTa_e (fun k i hk => ?_) a1, zNo_e z3 (fun i hi => z1 111 i (by decide) (by decide)) n, p, q, a2, zCE_q a3 (zGo_g a2).1 (fun i _ => z2 0 i (by omega)) (fun k i u => z2 k i (by omega)) z4 z5, zRQ_c z1 a4⟩
  rcases hk with ⟨rfl, rfl⟩ | ⟨rfl, rfl⟩ | rfl | rfl | rfl
  · exact z2 0 1 (by omega)
  · exact z1 111 1 (by decide) (by decide)
  · exact z2 1 i (by omega)
  · exact z1 112 i (by decide) (by decide)
  · exact z2 52 i (by omega)
theorem lg_E_R (a : lg_E h) (z : zQR zsl h h') : lg_E h' := by
  obtain ⟨a1, n, p, q, a2, a3, a4⟩ := a
  obtain ⟨z1, z2, z3⟩ := z
  have hi4 : ∀ i, i = 12 ∨ i = 13 ∨ i = 14 ∨ i = 15 → cw_at h' 111 i = cw_at h 111 i := fun i hi => z3 i (by simp only [List.mem_cons, List.not_mem_nil, or_false]; omega)
  refine ⟨zTa_e (fun k i hk => ?_) a1, zNo_e (fun i _ => z1 86 i (by decide)) (fun i hi => z3 i (by simp only [List.mem_cons, List.not_mem_nil, or_false]; omega)) n, p, q, a2, zCE_r z1 (zGo_g a2).1 a3, zRp_e (fun k i u v => z2 k i (by omega)) hi4 a4.1, zRq_e (fun i => z2 130 i (by omega)) (fun i => z2 135 i (by omega)) (fun i => z2 148 i (by omega)) (fun i hi => z3 i (by simp only [List.mem_cons, List.not_mem_nil, or_false]; omega)) a4.2⟩
  rcases hk with ⟨rfl, rfl⟩ | ⟨rfl, rfl⟩ | rfl | rfl | rfl
  · exact z1 0 1 (by decide)
  · exact z3 1 (by decide)
  · exact z1 1 i (by decide)
  · exact z2 112 i (by omega)
  · exact z1 52 i (by decide)
end QF
/-- a call of both sides, one behind the other: what both hold stays the same; r: so are the answers -/
def zJ (jc jr a : Nat) (r : Bool) : Prop := ∀ (X : cv_X) (Gn : Int) (h : cv_H) (as : List Int32), cw_Xok X → as.length = a → cw_T Gn h → cw_PP Gn h → lg_E h → cw_X X jc (fun o => ∃ (x : Int32) (h1 : cv_H), o = (some (cv_i x), h1) ∧ cw_T Gn h1 ∧ h1[149]? = h[149]? ∧ cw_X X jr (fun o => ∃ (y : Int32) (G2 : Int) (h2 : cv_H), o = (some (cv_i y), h2) ∧ cw_T G2 h2 ∧ cw_PP G2 h2 ∧ lg_E h2 ∧ h2[149]? = h[149]? ∧ (r = true → x = y)) 0 (cv_ent 0 (cv_r 111 :: as.map cv_i)) [] h1) 0 (cv_ent 0 (cv_r 0 :: as.map cv_i)) [] h
def zWq (W : ef_W) : Bool := W.all (fun w => (Nat.ble 55 w.1 && Nat.ble w.1 58) || ((Nat.ble 87 w.1 && Nat.ble w.1 102) || (w.1 == 86 && (match w.2 with
  | some m => !m.testBit 9 && !m.testBit 10
  | none => false))))
theorem zWq_no {W : ef_W} (b : zWq W = true) {k i : Nat} (h : (k ≤ 54 ∨ 59 ≤ k ∧ k ≤ 85 ∨ 103 ≤ k ∧ k < 111) ∨ k = 86 ∧ (i = 9 ∨ i = 10)) : ef_may W k i = false := by
  unfold ef_may
  rw [List.any_eq_false]
  intro w hw c
  have q := List.all_eq_true.mp b w hw
  rw [Bool.and_eq_true, beq_iff_eq] at c
  obtain ⟨c1, c2⟩ := c
  simp only [Bool.or_eq_true, Bool.and_eq_true, Nat.ble_eq, beq_iff_eq] at q
  rcases q with q | q | ⟨q1, q2⟩
  · omega
  · omega
  · rcases h with h | ⟨h1, h2⟩
    · omega
    · cases hw2 : w.2 with
      | none => rw [hw2] at q2; cases q2
      | some m =>
        rw [hw2] at q2 c2
        dsimp only at q2 c2
        simp only [Bool.and_eq_true, Bool.not_eq_true'] at q2
        rcases h2 with rfl | rfl
        · rw [q2.1] at c2; cases c2
        · rw [q2.2] at c2; cases c2
def zWn (W : ef_W) : Bool := W.all (fun w => (Nat.ble 55 w.1 && Nat.ble w.1 58) || (Nat.ble 86 w.1 && Nat.ble w.1 102))
theorem zWn_no {W : ef_W} (b : zWn W = true) {k i : Nat} (h : k ≤ 54 ∨ 59 ≤ k ∧ k ≤ 85 ∨ 103 ≤ k ∧ k < 111) : ef_may W k i = false := by
  unfold ef_may
  rw [List.any_eq_false]
  intro w hw c
  have q := List.all_eq_true.mp b w hw
  rw [Bool.and_eq_true, beq_iff_eq] at c
  simp only [Bool.or_eq_true, Bool.and_eq_true, Nat.ble_eq] at q
  omega
/-- a query's rows: the contract of the class, its cells, the contract of the reference -/
def zkqc (K : cw_K) (E : ef_K) (ie a : Nat) : Prop := ec_Ks[ie]? = some E ∧ E.1 = K.1.1 ∧ E.2.1 = some [0] :: List.replicate a none ∧ E.2.2.1 = [] ∧ K.2.1 = .inr (.inr 11) :: List.replicate a (.inl cw_top) ∧ K.2.2.2.2.2.2 = [] ∧ lg_nr K.2.2.2.2.2.1 = true ∧ zWq E.2.2.2.2.2 = true
def lg_qr (sl : List Nat) (m : Nat) : Bool := lg_nc m && (sl.all (fun i => !cw_bit m 12 i) && ([51, 52, 53, 54, 55, 56, 57, 58, 59, 60, 61, 62, 63, 64, 65, 66, 69, 74, 87] : List Nat).all (lg_nk m))
def zkr (sl : List Nat) (K : cw_K) (a : Nat) : Prop := K.2.1 = .inr (.inr 12) :: List.replicate a (.inl cw_top) ∧ K.2.2.2.2.2.2 = [] ∧ lg_qr sl K.2.2.2.2.2.1 = true
theorem zok_r : ∀ as : List Int32, ef_zok (List.replicate as.length none) (as.map cv_i)
  | [] => trivial
  | a :: as => ⟨ef_ok_none, zok_r as⟩
theorem zgas_r {Gn : Int} : ∀ as : List Int32, cw_gas Gn cw_sh (List.replicate as.length (.inl cw_top)) (as.map cv_i)
  | [] => trivial
  | a :: as => ⟨⟨_, rfl, cw_top_ok _⟩, zgas_r as⟩
section JQ
variable {X : cv_X} {Gn : Int} {h : cv_H}
theorem zq_c {K : cw_K} {E : ef_K} {ie : Nat} {as : List Int32} (hK : cw_Holds fk_all mt_all cw_Ds cw_sh Gn (cw_PP Gn) K) (ko : zkqc K E ie as.length) (hX : cw_Xok X) (hT : cw_T Gn h) (hP : cw_PP Gn h) (f1 : ef_fok ec_TF h) (f2 : ef_rok ec_TR h) : cw_X X K.1.1 (fun o => cw_Po cw_Ds cw_sh Gn (cw_PP Gn) K (cv_r 0 :: as.map cv_i) h o ∧ zQC h o.2) 0 (cv_ent 0 (cv_r 0 :: as.map cv_i)) [] h := by
  obtain ⟨k1, k2, k3, k4, k5, k6, k7, k8⟩ := ko
  have a := cw_HX (av := cv_r 0 :: as.map cv_i) hK rfl hX ⟨hT, hP⟩ (by rw [k5]; exact ⟨.inl ⟨by decide, 0, rfl, rfl⟩, zgas_r as⟩) (by rw [k6]; exact fun t ht => absurd ht List.not_mem_nil)
  rw [← k2] at a ⊢
  have c := ef_X ec_run (K := E) (List.mem_of_getElem? k1) (by rw [k3]; exact ⟨ef_ok_some (by decide), zok_r as⟩) f1 f2 (by rw [k4]; exact fun t ht => absurd ht List.not_mem_nil) a
  refine cw_X_imp c (fun o q => ?_)
  obtain ⟨po, g1, g2, g3, g4, g5⟩ := q
  refine ⟨po, lg_nr_e hT po.2.1.1 po.2.2.1 k7, fun k i u => g4 k i (zWq_no k8 (.inl u)), fun i u => g4 86 i (zWq_no k8 (.inr ⟨rfl, u⟩)), g1, g2⟩
theorem zqr_x {sl : List Nat} {K : cw_K} {as : List Int32} (hK : cw_Holds fk_all mt_all cw_Ds cw_sh Gn (cw_PP Gn) K) (ko : zkr sl K as.length) (hX : cw_Xok X) (hT : cw_T Gn h) (hP : cw_PP Gn h) : cw_X X K.1.1 (fun o => cw_Po cw_Ds cw_sh Gn (cw_PP Gn) K (cv_r 111 :: as.map cv_i) h o ∧ zQR sl h o.2) 0 (cv_ent 0 (cv_r 111 :: as.map cv_i)) [] h := by
  obtain ⟨k5, k6, k7⟩ := ko
  have a := cw_HX (av := cv_r 111 :: as.map cv_i) hK rfl hX ⟨hT, hP⟩ (by rw [k5]; exact ⟨.inl ⟨by decide, 111, rfl, rfl⟩, zgas_r as⟩) (by rw [k6]; exact fun t ht => absurd ht List.not_mem_nil)
  refine cw_X_imp a (fun o po => ⟨po, ?_⟩)
  unfold lg_qr at k7
  rw [Bool.and_eq_true, Bool.and_eq_true, List.all_eq_true, List.all_eq_true] at k7
  obtain ⟨b1, b2, b3⟩ := k7
  refine ⟨lg_nc_e hT po.2.1.1 po.2.2.1 b1, fun k i u => ?_, fun i u => ?_⟩
  · have hk : 111 ≤ k ∧ k < 149 := by omega
    have c : ∀ j : Fin 38, (111 + j.1 = 111 ∨ 111 + j.1 = 128 ∨ 111 + j.1 = 129 ∨ 131 ≤ 111 + j.1 ∧ 111 + j.1 ≤ 134 ∨ 136 ≤ 111 + j.1 ∧ 111 + j.1 ≤ 147) ∨ ∃ d, d ∈ ([51, 52, 53, 54, 55, 56, 57, 58, 59, 60, 61, 62, 63, 64, 65, 66, 69, 74, 87] : List Nat) ∧ cw_sh[111 + j.1]? = some d := by decide +kernel
    rcases c ⟨k - 111, by omega⟩ with c | ⟨d, hd, hs⟩
    · dsimp only at c; omega
    · dsimp only at hs
      rw [show 111 + (k - 111) = k from by omega] at hs
      exact fr_same hT po.2.1.1 po.2.2.1 hs (b3 d hd) i
  · have := b2 i u
    rw [Bool.not_eq_true'] at this
    exact po.2.2.1.2 111 12 i rfl this
/-- a query: what both hold stays -/
theorem zJ_q {Kc Kr : cw_K} {E : ef_K} {ie a jc jr : Nat} {wc wr : cw_W} (hKc : ∀ Gn, cw_Holds fk_all mt_all cw_Ds cw_sh Gn (cw_PP Gn) Kc) (hKr : ∀ Gn, cw_Holds fk_all mt_all cw_Ds cw_sh Gn (cw_PP Gn) Kr) (koc : zkqc Kc E ie a) (kor : zkr zsl Kr a) (ac : Kc.2.2.1 = some (.inl wc)) (ar : Kr.2.2.1 = some (.inl wr)) (ec : Kc.1.1 = jc) (er : Kr.1.1 = jr) : zJ jc jr a false := by
  subst ec er
  intro X Gn h as hX ha hT hP he
  subst ha
  have hz := he.2
  obtain ⟨-, p, q, -, ⟨⟨f1, f2, -⟩, -⟩, -⟩ := hz
  refine cw_X_imp (zq_c (hKc Gn) koc hX hT hP f1 f2) (fun o w => ?_)
  obtain ⟨po, z⟩ := w
  have hP1 := po.2.1.2
  have hF1 := po.2.2.1
  obtain ⟨x, h1, rfl, -, hT1, -⟩ := po_int po ac
  refine ⟨x, h1, rfl, hT1, hF1.1 149 rfl, ?_⟩
  refine cw_X_imp (zqr_x (hKr Gn) kor hX hT1 hP1) (fun o w => ?_)
  obtain ⟨po2, z2⟩ := w
  have hP2 := po2.2.1.2
  have hF2 := po2.2.2.1
  obtain ⟨y, h2, rfl, -, hT2, -⟩ := po_int po2 ar
  exact ⟨y, Gn, h2, rfl, hT2, hP2, lg_E_R (lg_E_C he z) z2, (hF2.1 149 rfl).trans (hF1.1 149 rfl), fun q => absurd q Bool.false_ne_true⟩
end JQ
