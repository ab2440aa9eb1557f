section
/-! ===== what a call leaves alone, by masks and by cells ===== -/
theorem fr_same {G G' : Int} {h h' : cv_H} {m k d : Nat} (hT : cw_T G h) (hT' : cw_T G' h') (hF : cw_Fr cw_Ds cw_sh m h h') (hk : cw_sh[k]? = some d) (q : (List.range 80).all (fun s => !cw_bit m d s) = true) (i : Nat) : cw_at h' k i = cw_at h k i := by
  have bz : ∀ s, s < 80 → cw_bit m d s = false := fun s hs => by
    have := List.all_eq_true.mp q s (List.mem_range.mpr hs)
    rwa [Bool.not_eq_true'] at this
  have t1 := hT k d hk
  have t2 := hT' k d hk
  unfold cw_cell at t1 t2
  cases hD : cw_Ds[d]? with
  | none => rw [hD] at t1; exact t1.elim
  | some D =>
    have cD : cw_Ds.all (fun D => match D with
      | .inl (_, _, p, _) => Nat.ble 1 p && Nat.ble p 70
      | .inr (.inr (.inr (_, fs))) => Nat.ble fs.length 79
      | _ => true) = true := by decide
    have mD := List.all_eq_true.mp cD D (List.mem_of_getElem? hD)
    rw [hD] at t1 t2
    rcases D with ⟨t, n, p, rs⟩ | n | ⟨t, n, d'⟩ | ⟨ci, fs⟩
    · refine hF.2 k d i hk ?_
      unfold cw_tch
      rw [hD]
      dsimp only at mD ⊢
      rw [Bool.and_eq_true, Nat.ble_eq, Nat.ble_eq] at mD
      have := Nat.mod_lt i (y := p) (by omega)
      rw [bz 0 (by decide), bz (1 + i % p) (by omega)]
      rfl
    · exact hF.2 k d i hk (by unfold cw_tch; rw [hD]; exact bz 0 (by decide))
    · exact hF.2 k d i hk (by unfold cw_tch; rw [hD]; exact bz 0 (by decide))
    · by_cases c : i < 79
      · exact hF.2 k d i hk (by unfold cw_tch; rw [hD]; exact bz i (by omega))
      · dsimp only at mD t1 t2
        rw [Nat.ble_eq] at mD
        obtain ⟨vs, v1, v2, -⟩ := t1
        obtain ⟨ws, w1, w2, -⟩ := t2
        unfold cw_at
        rw [v1, w1]
        show ws[i]? = vs[i]?
        rw [List.getElem?_eq_none (by omega), List.getElem?_eq_none (by omega)]
def lg_nk (m d : Nat) : Bool := (List.range 80).all (fun s => !cw_bit m d s)
/-- nothing of the class, nothing of the reference -/
def lg_nc (m : Nat) : Bool := (List.range 12).all (lg_nk m) && (List.range 38).all (fun d => lg_nk m (13 + d))
def lg_nr (m : Nat) : Bool := lg_nk m 12 && (List.range 37).all (fun d => lg_nk m (51 + d))
section NF
variable {G G' : Int} {h h' : cv_H} {m : Nat}
theorem lg_nc_e (hT : cw_T G h) (hT' : cw_T G' h') (hF : cw_Fr cw_Ds cw_sh m h h') (b : lg_nc m = true) : ∀ k i, k < 111 → cw_at h' k i = cw_at h k i := by
  intro k i hk
  unfold lg_nc at b
  rw [Bool.and_eq_true] at b
  obtain ⟨d, hd, q⟩ := sh_c hk
  refine fr_same hT hT' hF hd ?_ i
  rcases q with q | q
  · exact List.all_eq_true.mp b.1 d (List.mem_range.mpr (by omega))
  · have := List.all_eq_true.mp b.2 (d - 13) (List.mem_range.mpr (by omega))
    rwa [show 13 + (d - 13) = d from by omega] at this
theorem lg_nr_e (hT : cw_T G h) (hT' : cw_T G' h') (hF : cw_Fr cw_Ds cw_sh m h h') (b : lg_nr m = true) : ∀ k i, 111 ≤ k → k < 149 → cw_at h' k i = cw_at h k i := by
  intro k i hk hk2
  unfold lg_nr at b
  rw [Bool.and_eq_true] at b
  obtain ⟨d, hd, q⟩ := sh_r hk hk2
  refine fr_same hT hT' hF hd ?_ i
  rcases q with q | q
  · subst q; exact b.1
  · have := List.all_eq_true.mp b.2 (d - 51) (List.mem_range.mpr (by omega))
    rwa [show 51 + (d - 51) = d from by omega] at this
end NF
/-- both sides hold the same tape; the class's words -/
def zTa (h : cv_H) : Prop := ri_at h 0 1 = ri_at h 111 1 ∧ (∀ i : Nat, (i : Int) < ri_at h 0 1 → ri_at h 1 i % 256 = ri_at h 112 i) ∧ ∀ i, i < 34 → ri_at h 52 i = tz_wc.getD i 0
def lg_E (h : cv_H) : Prop := zTa h ∧ zST h
/-- what a query of the class leaves alone -/
def zQC (h h' : cv_H) : Prop := (∀ k i, 111 ≤ k → k < 149 → cw_at h' k i = cw_at h k i) ∧ (∀ k i, (k ≤ 54 ∨ 59 ≤ k ∧ k ≤ 85 ∨ 103 ≤ k ∧ k < 111) → cw_at h' k i = cw_at h k i) ∧ (∀ i, i = 9 ∨ i = 10 → cw_at h' 86 i = cw_at h 86 i) ∧ ef_fok ec_TF h' ∧ ef_rok ec_TR h'
/-- what a query of the reference leaves alone -/
def zQR (sl : List Nat) (h h' : cv_H) : Prop := (∀ k i, k < 111 → cw_at h' k i = cw_at h k i) ∧ (∀ k i, (112 ≤ k ∧ k ≤ 127 ∨ k = 130 ∨ k = 135 ∨ k = 148) → cw_at h' k i = cw_at h k i) ∧ ∀ i, i ∈ sl → cw_at h' 111 i = cw_at h 111 i
abbrev zsl : List Nat := [1, 12, 13, 14, 15, 43, 50, 52, 53, 66, 67]
/-- the same but for the notes -/
def zQ0 (h h' : cv_H) : Prop := (∀ k i, 111 ≤ k → k < 149 → cw_at h' k i = cw_at h k i) ∧ (∀ k i, (k ≤ 54 ∨ 59 ≤ k ∧ k ≤ 85 ∨ 103 ≤ k ∧ k < 111) → cw_at h' k i = cw_at h k i) ∧ ef_fok ec_TF h' ∧ ef_rok ec_TR h'
section QF
variable {h h' : cv_H} {p : zPp} {q : zQs}
theorem zTa_e (e : ∀ k i, (k = 0 ∧ i = 1 ∨ k = 111 ∧ i = 1 ∨ k = 1 ∨ k = 112 ∨ k = 52) → cw_at h' k i = cw_at h k i) (a : zTa h) : zTa h' := by
  have e1 : ri_at h' 0 1 = ri_at h 0 1 := ri_eq (e 0 1 (by decide))
  refine ⟨e1.trans (a.1.trans (ri_eq (e 111 1 (by decide))).symm), fun i hi => ?_, fun i hi => (ri_eq (e 52 i (by omega))).trans (a.2.2 i hi)⟩
  rw [ri_eq (e 1 i (by omega)), ri_eq (e 112 i (by omega))]
  exact a.2.1 i (by rw [← e1]; exact hi)
theorem zNo_e (e : ∀ i, i = 9 ∨ i = 10 → cw_at h' 86 i = cw_at h 86 i) (e2 : ∀ i, i = 52 ∨ i = 53 → cw_at h' 111 i = cw_at h 111 i) (a : zNo h) : zNo h' := ⟨(ri_eq (e 9 (.inl rfl))).trans (a.1.trans (ri_eq (e2 52 (.inl rfl))).symm), (ri_eq (e 10 (.inr rfl))).trans (a.2.trans (ri_eq (e2 53 (.inr rfl))).symm)⟩
theorem zPM_a {b : Nat} (hb : b = 2 ∨ b = 26) (e : ∀ k i, 2 ≤ k → k ≤ 49 → cw_at h' k i = cw_at h k i) (a : zPM b h) : zPM b h' := ⟨fun i hi => (e b i (by omega) (by omega)).trans (a.1 i hi), fun i hi => (e (b + 6) i (by omega) (by omega)).trans (a.2 i hi)⟩
theorem zCE_q (a : zCE h p q) (hng : zng p ≤ 4) (e0 : ∀ i, i = 2 ∨ i = 3 ∨ i = 8 ∨ i = 10 → cw_at h' 0 i = cw_at h 0 i) (e : ∀ k i, (2 ≤ k ∧ k ≤ 49 ∨ 61 ≤ k ∧ k ≤ 85 ∨ 103 ≤ k ∧ k < 111) → cw_at h' k i = cw_at h k i) (f1 : ef_fok ec_TF h') (f2 : ef_rok ec_TR h') : zCE h' p q := by
  obtain ⟨⟨r1, r2, r3, r4, r5⟩, b, b1, b2⟩ := a
  have hb := b1.1
  exact ⟨⟨f1, f2, fun g hg => ⟨(e _ _ (by omega)).trans (r3 g hg).1, (e _ _ (by omega)).trans (r3 g hg).2⟩, zPM_a (.inl rfl) (fun k i u v => e k i (.inl ⟨u, v⟩)) r4, zPM_a (.inr rfl) (fun k i u v => e k i (.inl ⟨u, v⟩)) r5⟩, b, zCp_e (fun i u => e0 i (by omega)) (fun k i u v => e k i (by omega)) hng b1, zCd_e (fun i u => e0 i (by omega)) (fun k i u v => e k i (by omega)) (fun k i u v => e k i (by omega)) hng b2⟩
theorem lg_E_C (a : lg_E h) (z : zQC h h') : lg_E h' := by
  obtain ⟨a1, n, p, q, a2, a3, a4⟩ := a
  obtain ⟨z1, z2, z3, z4, z5⟩ := z
  refine ⟨zTa_e (fun k i hk => ?_) a1, zNo_e z3 (fun i hi => z1 111 i (by decide) (by decide)) n, p, q, a2, zCE_q a3 (zGo_g a2).1 (fun i _ => z2 0 i (by omega)) (fun k i u => z2 k i (by omega)) z4 z5, zRQ_c z1 a4⟩
  rcases hk with ⟨rfl, rfl⟩ | ⟨rfl, rfl⟩ | rfl | rfl | rfl
  · exact z2 0 1 (by omega)
  · exact z1 111 1 (by decide) (by decide)
  · exact z2 1 i (by omega)
  · exact z1 112 i (by decide) (by decide)
  · exact z2 52 i (by omega)
theorem lg_E_R (a : lg_E h) (z : zQR zsl h h') : lg_E h' := by
  obtain ⟨a1, n, p, q, a2, a3, a4⟩ := a
  obtain ⟨z1, z2, z3⟩ := z
  have hi4 : ∀ i, i = 12 ∨ i = 13 ∨ i = 14 ∨ i = 15 → cw_at h' 111 i = cw_at h 111 i := fun i hi => z3 i (by simp only [List.mem_cons, List.not_mem_nil, or_false]; omega)
  refine ⟨zTa_e (fun k i hk => ?_) a1, zNo_e (fun i _ => z1 86 i (by decide)) (fun i hi => z3 i (by simp only [List.mem_cons, List.not_mem_nil, or_false]; omega)) n, p, q, a2, zCE_r z1 (zGo_g a2).1 a3, zRp_e (fun k i u v => z2 k i (by omega)) hi4 a4.1, zRq_e (fun i => z2 130 i (by omega)) (fun i => z2 135 i (by omega)) (fun i => z2 148 i (by omega)) (fun i hi => z3 i (by simp only [List.mem_cons, List.not_mem_nil, or_false]; omega)) a4.2⟩
  rcases hk with ⟨rfl, rfl⟩ | ⟨rfl, rfl⟩ | rfl | rfl | rfl
  · exact z1 0 1 (by decide)
  · exact z3 1 (by decide)
  · exact z1 1 i (by decide)
  · exact z2 112 i (by omega)
  · exact z1 52 i (by decide)
end QF
/-- a call of both sides, one behind the other: what both hold stays the same; r: so are the answers -/
def zJ (jc jr a : Nat) (r : Bool) : Prop := ∀ (X : cv_X) (Gn : Int) (h : cv_H) (as : List Int32), cw_Xok X → as.length = a → cw_T Gn h → cw_PP Gn h → lg_E h → cw_X X jc (fun o => ∃ (x : Int32) (h1 : cv_H), o = (some (cv_i x), h1) ∧ cw_T Gn h1 ∧ h1[149]? = h[149]? ∧ cw_X X jr (fun o => ∃ (y : Int32) (G2 : Int) (h2 : cv_H), o = (some (cv_i y), h2) ∧ cw_T G2 h2 ∧ cw_PP G2 h2 ∧ lg_E h2 ∧ h2[149]? = h[149]? ∧ (r = true → x = y)) 0 (cv_ent 0 (cv_r 111 :: as.map cv_i)) [] h1) 0 (cv_ent 0 (cv_r 0 :: as.map cv_i)) [] h
def zWq (W : ef_W) : Bool := W.all (fun w => (Nat.ble 55 w.1 && Nat.ble w.1 58) || ((Nat.ble 87 w.1 && Nat.ble w.1 102) || (w.1 == 86 && (match w.2 with
  | some m => !m.testBit 9 && !m.testBit 10
  | none => false))))
theorem zWq_no {W : ef_W} (b : zWq W = true) {k i : Nat} (h : (k ≤ 54 ∨ 59 ≤ k ∧ k ≤ 85 ∨ 103 ≤ k ∧ k < 111) ∨ k = 86 ∧ (i = 9 ∨ i = 10)) : ef_may W k i = false := by
  unfold ef_may
  rw [List.any_eq_false]
  intro w hw c
  have q := List.all_eq_true.mp b w hw
  rw [Bool.and_eq_true, beq_iff_eq] at c
  obtain ⟨c1, c2⟩ := c
  simp only [Bool.or_eq_true, Bool.and_eq_true, Nat.ble_eq, beq_iff_eq] at q
  rcases q with q | q | ⟨q1, q2⟩
  · omega
  · omega
  · rcases h with h | ⟨h1, h2⟩
    · omega
    · cases hw2 : w.2 with
      | none => rw [hw2] at q2; cases q2
      | some m =>
        rw [hw2] at q2 c2
        dsimp only at q2 c2
        simp only [Bool.and_eq_true, Bool.not_eq_true'] at q2
        rcases h2 with rfl | rfl
        · rw [q2.1] at c2; cases c2
        · rw [q2.2] at c2; cases c2
def zWn (W : ef_W) : Bool := W.all (fun w => (Nat.ble 55 w.1 && Nat.ble w.1 58) || (Nat.ble 86 w.1 && Nat.ble w.1 102))
theorem zWn_no {W : ef_W} (b : zWn W = true) {k i : Nat} (h : k ≤ 54 ∨ 59 ≤ k ∧ k ≤ 85 ∨ 103 ≤ k ∧ k < 111) : ef_may W k i = false := by
  unfold ef_may
  rw [List.any_eq_false]
  intro w hw c
  have q := List.all_eq_true.mp b w hw
  rw [Bool.and_eq_true, beq_iff_eq] at c
  simp only [Bool.or_eq_true, Bool.and_eq_true, Nat.ble_eq] at q
  omega
/-- a query's rows: the contract of the class, its cells, the contract of the reference -/
def zkqc (K : cw_K) (E : ef_K) (ie a : Nat) : Prop := ec_Ks[ie]? = some E ∧ E.1 = K.1.1 ∧ E.2.1 = some [0] :: List.replicate a none ∧ E.2.2.1 = [] ∧ K.2.1 = .inr (.inr 11) :: List.replicate a (.inl cw_top) ∧ K.2.2.2.2.2.2 = [] ∧ lg_nr K.2.2.2.2.2.1 = true ∧ zWq E.2.2.2.2.2 = true
def lg_qr (sl : List Nat) (m : Nat) : Bool := lg_nc m && (sl.all (fun i => !cw_bit m 12 i) && ([51, 52, 53, 54, 55, 56, 57, 58, 59, 60, 61, 62, 63, 64, 65, 66, 69, 74, 87] : List Nat).all (lg_nk m))
def zkr (sl : List Nat) (K : cw_K) (a : Nat) : Prop := K.2.1 = .inr (.inr 12) :: List.replicate a (.inl cw_top) ∧ K.2.2.2.2.2.2 = [] ∧ lg_qr sl K.2.2.2.2.2.1 = true
theorem zok_r : ∀ as : List Int32, ef_zok (List.replicate as.length none) (as.map cv_i)
  | [] => trivial
  | a :: as => ⟨ef_ok_none, zok_r as⟩
theorem zgas_r {Gn : Int} : ∀ as : List Int32, cw_gas Gn cw_sh (List.replicate as.length (.inl cw_top)) (as.map cv_i)
  | [] => trivial
  | a :: as => ⟨⟨_, rfl, cw_top_ok _⟩, zgas_r as⟩
section JQ
variable {X : cv_X} {Gn : Int} {h : cv_H}
theorem zq_c {K : cw_K} {E : ef_K} {ie : Nat} {as : List Int32} (hK : cw_Holds fk_all mt_all cw_Ds cw_sh Gn (cw_PP Gn) K) (ko : zkqc K E ie as.length) (hX : cw_Xok X) (hT : cw_T Gn h) (hP : cw_PP Gn h) (f1 : ef_fok ec_TF h) (f2 : ef_rok ec_TR h) : cw_X X K.1.1 (fun o => cw_Po cw_Ds cw_sh Gn (cw_PP Gn) K (cv_r 0 :: as.map cv_i) h o ∧ zQC h o.2) 0 (cv_ent 0 (cv_r 0 :: as.map cv_i)) [] h := by
  obtain ⟨k1, k2, k3, k4, k5, k6, k7, k8⟩ := ko
  have a := cw_HX (av := cv_r 0 :: as.map cv_i) hK rfl hX ⟨hT, hP⟩ (by rw [k5]; exact ⟨.inl ⟨by decide, 0, rfl, rfl⟩, zgas_r as⟩) (by rw [k6]; exact fun t ht => absurd ht List.not_mem_nil)
  rw [← k2] at a ⊢
  have c := ef_X ec_run (K := E) (List.mem_of_getElem? k1) (by rw [k3]; exact ⟨ef_ok_some (by decide), zok_r as⟩) f1 f2 (by rw [k4]; exact fun t ht => absurd ht List.not_mem_nil) a
  refine cw_X_imp c (fun o q => ?_)
  obtain ⟨po, g1, g2, g3, g4, g5⟩ := q
  refine ⟨po, lg_nr_e hT po.2.1.1 po.2.2.1 k7, fun k i u => g4 k i (zWq_no k8 (.inl u)), fun i u => g4 86 i (zWq_no k8 (.inr ⟨rfl, u⟩)), g1, g2⟩
theorem zqr_x {sl : List Nat} {K : cw_K} {as : List Int32} (hK : cw_Holds fk_all mt_all cw_Ds cw_sh Gn (cw_PP Gn) K) (ko : zkr sl K as.length) (hX : cw_Xok X) (hT : cw_T Gn h) (hP : cw_PP Gn h) : cw_X X K.1.1 (fun o => cw_Po cw_Ds cw_sh Gn (cw_PP Gn) K (cv_r 111 :: as.map cv_i) h o ∧ zQR sl h o.2) 0 (cv_ent 0 (cv_r 111 :: as.map cv_i)) [] h := by
  obtain ⟨k5, k6, k7⟩ := ko
  have a := cw_HX (av := cv_r 111 :: as.map cv_i) hK rfl hX ⟨hT, hP⟩ (by rw [k5]; exact ⟨.inl ⟨by decide, 111, rfl, rfl⟩, zgas_r as⟩) (by rw [k6]; exact fun t ht => absurd ht List.not_mem_nil)
  refine cw_X_imp a (fun o po => ⟨po, ?_⟩)
  unfold lg_qr at k7
  rw [Bool.and_eq_true, Bool.and_eq_true, List.all_eq_true, List.all_eq_true] at k7
  obtain ⟨b1, b2, b3⟩ := k7
  refine ⟨lg_nc_e hT po.2.1.1 po.2.2.1 b1, fun k i u => ?_, fun i u => ?_⟩
  · have hk : 111 ≤ k ∧ k < 149 := by omega
    have c : ∀ j : Fin 38, (111 + j.1 = 111 ∨ 111 + j.1 = 128 ∨ 111 + j.1 = 129 ∨ 131 ≤ 111 + j.1 ∧ 111 + j.1 ≤ 134 ∨ 136 ≤ 111 + j.1 ∧ 111 + j.1 ≤ 147) ∨ ∃ d, d ∈ ([51, 52, 53, 54, 55, 56, 57, 58, 59, 60, 61, 62, 63, 64, 65, 66, 69, 74, 87] : List Nat) ∧ cw_sh[111 + j.1]? = some d := by decide +kernel
    rcases c ⟨k - 111, by omega⟩ with c | ⟨d, hd, hs⟩
    · dsimp only at c; omega
    · dsimp only at hs
      rw [show 111 + (k - 111) = k from by omega] at hs
      exact fr_same hT po.2.1.1 po.2.2.1 hs (b3 d hd) i
  · have := b2 i u
    rw [Bool.not_eq_true'] at this
    exact po.2.2.1.2 111 12 i rfl this
/-- a query: what both hold stays -/
theorem zJ_q {Kc Kr : cw_K} {E : ef_K} {ie a jc jr : Nat} {wc wr : cw_W} (hKc : ∀ Gn, cw_Holds fk_all mt_all cw_Ds cw_sh Gn (cw_PP Gn) Kc) (hKr : ∀ Gn, cw_Holds fk_all mt_all cw_Ds cw_sh Gn (cw_PP Gn) Kr) (koc : zkqc Kc E ie a) (kor : zkr zsl Kr a) (ac : Kc.2.2.1 = some (.inl wc)) (ar : Kr.2.2.1 = some (.inl wr)) (ec : Kc.1.1 = jc) (er : Kr.1.1 = jr) : zJ jc jr a false := by
  subst ec er
  intro X Gn h as hX ha hT hP he
  subst ha
  have hz := he.2
  obtain ⟨-, p, q, -, ⟨⟨f1, f2, -⟩, -⟩, -⟩ := hz
  refine cw_X_imp (zq_c (hKc Gn) koc hX hT hP f1 f2) (fun o w => ?_)
  obtain ⟨po, z⟩ := w
  have hP1 := po.2.1.2
  have hF1 := po.2.2.1
  obtain ⟨x, h1, rfl, -, hT1, -⟩ := po_int po ac
  refine ⟨x, h1, rfl, hT1, hF1.1 149 rfl, ?_⟩
  refine cw_X_imp (zqr_x (hKr Gn) kor hX hT1 hP1) (fun o w => ?_)
  obtain ⟨po2, z2⟩ := w
  have hP2 := po2.2.1.2
  have hF2 := po2.2.2.1
  obtain ⟨y, h2, rfl, -, hT2, -⟩ := po_int po2 ar
  exact ⟨y, Gn, h2, rfl, hT2, hP2, lg_E_R (lg_E_C he z) z2, (hF2.1 149 rfl).trans (hF1.1 149 rfl), fun q => absurd q Bool.false_ne_true⟩
end JQ
end
section
/-! ===== queries leave alone what both hold ===== -/
set_option maxRecDepth 10000
/-- the same with answers of two words -/
def zJL (jc jr a : Nat) (r : Bool) : Prop := ∀ (X : cv_X) (Gn : Int) (h : cv_H) (as : List Int32), cw_Xok X → as.length = a → cw_T Gn h → cw_PP Gn h → lg_E h → cw_X X jc (fun o => ∃ (x : Int64) (h1 : cv_H), o = (some (cv_l x), h1) ∧ cw_T Gn h1 ∧ h1[149]? = h[149]? ∧ cw_X X jr (fun o => ∃ (y : Int64) (G2 : Int) (h2 : cv_H), o = (some (cv_l y), h2) ∧ cw_T G2 h2 ∧ cw_PP G2 h2 ∧ lg_E h2 ∧ h2[149]? = h[149]? ∧ (r = true → x = y)) 0 (cv_ent 0 (cv_r 111 :: as.map cv_i)) [] h1) 0 (cv_ent 0 (cv_r 0 :: as.map cv_i)) [] h
theorem zJ_ql {Kc Kr : cw_K} {E : ef_K} {ie a jc jr : Nat} {wc wr : cw_W} (hKc : ∀ Gn, cw_Holds fk_all mt_all cw_Ds cw_sh Gn (cw_PP Gn) Kc) (hKr : ∀ Gn, cw_Holds fk_all mt_all cw_Ds cw_sh Gn (cw_PP Gn) Kr) (koc : zkqc Kc E ie a) (kor : zkr zsl Kr a) (ac : Kc.2.2.1 = some (.inr (.inl wc))) (ar : Kr.2.2.1 = some (.inr (.inl wr))) (ec : Kc.1.1 = jc) (er : Kr.1.1 = jr) : zJL jc jr a false := by
  subst ec er
  intro X Gn h as hX ha hT hP he
  subst ha
  have hz := he.2
  obtain ⟨-, p, q, -, ⟨⟨f1, f2, -⟩, -⟩, -⟩ := hz
  refine cw_X_imp (zq_c (hKc Gn) koc hX hT hP f1 f2) (fun o w => ?_)
  obtain ⟨po, z⟩ := w
  have hP1 := po.2.1.2
  have hF1 := po.2.2.1
  obtain ⟨x, h1, rfl, -, hT1, -⟩ := po_lng po ac
  refine ⟨x, h1, rfl, hT1, hF1.1 149 rfl, ?_⟩
  refine cw_X_imp (zqr_x (hKr Gn) kor hX hT1 hP1) (fun o w => ?_)
  obtain ⟨po2, z2⟩ := w
  have hP2 := po2.2.1.2
  have hF2 := po2.2.2.1
  obtain ⟨y, h2, rfl, -, hT2, -⟩ := po_lng po2 ar
  exact ⟨y, Gn, h2, rfl, hT2, hP2, lg_E_R (lg_E_C he z) z2, (hF2.1 149 rfl).trans (hF1.1 149 rfl), fun q => absurd q Bool.false_ne_true⟩
theorem zk_c2 : zkqc kk_X11_fault ec_X11_fault_0 110 1 := ⟨rfl, rfl, rfl, rfl, rfl, rfl, by decide +kernel, by decide⟩
theorem zk_r2 : zkr zsl kk_X12_fault 1 := ⟨rfl, rfl, by decide +kernel⟩
theorem zJ_c2 : zJ 111 189 1 false := zJ_q (fun Gn => hz_X11_fault) (fun Gn => hz_X12_fault) zk_c2 zk_r2 rfl rfl rfl rfl
theorem zk_c3 : zkqc kk_X11_named ec_X11_named_0 114 2 := ⟨rfl, rfl, rfl, rfl, rfl, rfl, by decide +kernel, by decide⟩
theorem zk_r3 : zkr zsl kk_X12_named 2 := ⟨rfl, rfl, by decide +kernel⟩
theorem zJ_c3 : zJ 112 190 2 false := zJ_q (fun Gn => hz_X11_named) (fun Gn => hz_X12_named) zk_c3 zk_r3 rfl rfl rfl rfl
theorem zk_c5 : zkqc kk_X11_works ec_X11_works_0 116 2 := ⟨rfl, rfl, rfl, rfl, rfl, rfl, by decide +kernel, by decide⟩
theorem zk_r5 : zkr zsl kk_X12_works 2 := ⟨rfl, rfl, by decide +kernel⟩
theorem zJ_c5 : zJ 119 219 2 false := zJ_q (fun Gn => hz_X11_works) (fun Gn => hz_X12_works) zk_c5 zk_r5 rfl rfl rfl rfl
theorem zk_c6 : zkqc kk_X11_firm ec_X11_firm_0 119 1 := ⟨rfl, rfl, rfl, rfl, rfl, rfl, by decide +kernel, by decide⟩
theorem zk_r6 : zkr zsl kk_X12_firm 1 := ⟨rfl, rfl, by decide +kernel⟩
theorem zJ_c6 : zJ 120 220 1 false := zJ_q (fun Gn => hz_X11_firm) (fun Gn => hz_X12_firm) zk_c6 zk_r6 rfl rfl rfl rfl
theorem zk_c8 : zkqc kk_X11_sags ec_X11_sags_0 140 2 := ⟨rfl, rfl, rfl, rfl, rfl, rfl, by decide +kernel, by decide⟩
theorem zk_r8 : zkr zsl kk_X12_sags 2 := ⟨rfl, rfl, by decide +kernel⟩
theorem zJ_c8 : zJ 122 222 2 false := zJ_q (fun Gn => hz_X11_sags) (fun Gn => hz_X12_sags) zk_c8 zk_r8 rfl rfl rfl rfl
theorem zk_c9 : zkqc kk_X11_latched ec_X11_latched_0 142 1 := ⟨rfl, rfl, rfl, rfl, rfl, rfl, by decide +kernel, by decide⟩
theorem zk_r9 : zkr zsl kk_X12_latched 1 := ⟨rfl, rfl, by decide +kernel⟩
theorem zJ_c9 : zJ 123 224 1 false := zJ_q (fun Gn => hz_X11_latched) (fun Gn => hz_X12_latched) zk_c9 zk_r9 rfl rfl rfl rfl
theorem zk_c10 : zkqc kk_X11_gives ec_X11_gives_0 143 1 := ⟨rfl, rfl, rfl, rfl, rfl, rfl, by decide +kernel, by decide⟩
theorem zk_r10 : zkr zsl kk_X12_gives 1 := ⟨rfl, rfl, by decide +kernel⟩
theorem zJ_c10 : zJ 124 225 1 false := zJ_q (fun Gn => hz_X11_gives) (fun Gn => hz_X12_gives) zk_c10 zk_r10 rfl rfl rfl rfl
theorem zk_c13 : zkqc kk_X11_lasts ec_X11_lasts_0 162 2 := ⟨rfl, rfl, rfl, rfl, rfl, rfl, by decide +kernel, by decide⟩
theorem zk_r13 : zkr zsl kk_X12_lasts 2 := ⟨rfl, rfl, by decide +kernel⟩
theorem zJ_c13 : zJ 127 230 2 false := zJ_q (fun Gn => hz_X11_lasts) (fun Gn => hz_X12_lasts) zk_c13 zk_r13 rfl rfl rfl rfl
theorem zk_c14 : zkqc kk_X11_least ec_X11_least_0 167 4 := ⟨rfl, rfl, rfl, rfl, rfl, rfl, by decide +kernel, by decide⟩
theorem zk_r14 : zkr zsl kk_X12_least 4 := ⟨rfl, rfl, by decide +kernel⟩
theorem zJ_c14 : zJ 128 232 4 false := zJ_q (fun Gn => hz_X11_least) (fun Gn => hz_X12_least) zk_c14 zk_r14 rfl rfl rfl rfl
theorem zk_c15 : zkqc kk_X11_way ec_X11_way_0 169 2 := ⟨rfl, rfl, rfl, rfl, rfl, rfl, by decide +kernel, by decide⟩
theorem zk_r15 : zkr zsl kk_X12_way 2 := ⟨rfl, rfl, by decide +kernel⟩
theorem zJ_c15 : zJ 130 234 2 false := zJ_q (fun Gn => hz_X11_way) (fun Gn => hz_X12_way) zk_c15 zk_r15 rfl rfl rfl rfl
theorem zk_c16 : zkqc kk_X11_enough ec_X11_enough_0 171 3 := ⟨rfl, rfl, rfl, rfl, rfl, rfl, by decide +kernel, by decide⟩
theorem zk_r16 : zkr zsl kk_X12_enough 3 := ⟨rfl, rfl, by decide +kernel⟩
theorem zJ_c16 : zJ 132 235 3 false := zJ_q (fun Gn => hz_X11_enough) (fun Gn => hz_X12_enough) zk_c16 zk_r16 rfl rfl rfl rfl
theorem zk_c17 : zkqc kk_X11_bears ec_X11_bears_0 172 3 := ⟨rfl, rfl, rfl, rfl, rfl, rfl, by decide +kernel, by decide⟩
theorem zk_r17 : zkr zsl kk_X12_bears 3 := ⟨rfl, rfl, by decide +kernel⟩
theorem zJ_c17 : zJ 133 236 3 false := zJ_q (fun Gn => hz_X11_bears) (fun Gn => hz_X12_bears) zk_c17 zk_r17 rfl rfl rfl rfl
theorem zk_c18 : zkqc kk_X11_knock ec_X11_knock_0 176 2 := ⟨rfl, rfl, rfl, rfl, rfl, rfl, by decide +kernel, by decide⟩
theorem zk_r18 : zkr zsl kk_X12_knock 2 := ⟨rfl, rfl, by decide +kernel⟩
theorem zJ_c18 : zJL 134 237 2 false := zJ_ql (fun Gn => hz_X11_knock) (fun Gn => hz_X12_knock) zk_c18 zk_r18 rfl rfl rfl rfl
theorem zk_c22 : zkqc kk_X11_fits ec_X11_fits_0 200 1 := ⟨rfl, rfl, rfl, rfl, rfl, rfl, by decide +kernel, by decide⟩
theorem zk_r22 : zkr zsl kk_X12_fits 1 := ⟨rfl, rfl, by decide +kernel⟩
theorem zJ_c22 : zJ 138 248 1 false := zJ_q (fun Gn => hz_X11_fits) (fun Gn => hz_X12_fits) zk_c22 zk_r22 rfl rfl rfl rfl
theorem zk_c23 : zkqc kk_X11_odds ec_X11_odds_0 204 3 := ⟨rfl, rfl, rfl, rfl, rfl, rfl, by decide +kernel, by decide⟩
theorem zk_r23 : zkr zsl kk_X12_odds 3 := ⟨rfl, rfl, by decide +kernel⟩
theorem zJ_c23 : zJ 139 251 3 false := zJ_q (fun Gn => hz_X11_odds) (fun Gn => (hk_X12_odds hz_X12_layCounts hz_X12_isFit)) zk_c23 zk_r23 rfl rfl rfl rfl
theorem zk_c24 : zkqc kk_X11_test ec_X11_test_0 208 2 := ⟨rfl, rfl, rfl, rfl, rfl, rfl, by decide +kernel, by decide⟩
theorem zk_r24 : zkr zsl kk_X12_test 2 := ⟨rfl, rfl, by decide +kernel⟩
theorem zJ_c24 : zJ 140 253 2 false := zJ_q (fun Gn => hz_X11_test) (fun Gn => hz_X12_test) zk_c24 zk_r24 rfl rfl rfl rfl
theorem zk_c25 : zkqc kk_X11_low ec_X11_low_0 211 2 := ⟨rfl, rfl, rfl, rfl, rfl, rfl, by decide +kernel, by decide⟩
theorem zk_r25 : zkr zsl kk_X12_low 2 := ⟨rfl, rfl, by decide +kernel⟩
theorem zJ_c25 : zJ 141 256 2 false := zJ_q (fun Gn => hz_X11_low) (fun Gn => hz_X12_low) zk_c25 zk_r25 rfl rfl rfl rfl
theorem zk_c26 : zkqc kk_X11_rest ec_X11_rest_0 212 1 := ⟨rfl, rfl, rfl, rfl, rfl, rfl, by decide +kernel, by decide⟩
theorem zk_r26 : zkr zsl kk_X12_rest 1 := ⟨rfl, rfl, by decide +kernel⟩
theorem zJ_c26 : zJ 142 257 1 false := zJ_q (fun Gn => hz_X11_rest) (fun Gn => hz_X12_rest) zk_c26 zk_r26 rfl rfl rfl rfl
theorem zk_c27 : zkqc kk_X11_shuts ec_X11_shuts_0 214 1 := ⟨rfl, rfl, rfl, rfl, rfl, rfl, by decide +kernel, by decide⟩
theorem zk_r27 : zkr zsl kk_X12_shuts 1 := ⟨rfl, rfl, by decide +kernel⟩
theorem zJ_c27 : zJ 143 259 1 false := zJ_q (fun Gn => hz_X11_shuts) (fun Gn => hz_X12_shuts) zk_c27 zk_r27 rfl rfl rfl rfl
theorem zk_c28 : zkqc kk_X11_above ec_X11_above_0 216 2 := ⟨rfl, rfl, rfl, rfl, rfl, rfl, by decide +kernel, by decide⟩
theorem zk_r28 : zkr zsl kk_X12_above 2 := ⟨rfl, rfl, by decide +kernel⟩
theorem zJ_c28 : zJ 144 261 2 false := zJ_q (fun Gn => hz_X11_above) (fun Gn => hz_X12_above) zk_c28 zk_r28 rfl rfl rfl rfl
theorem zk_c29 : zkqc kk_X11_opens ec_X11_opens_0 217 1 := ⟨rfl, rfl, rfl, rfl, rfl, rfl, by decide +kernel, by decide⟩
theorem zk_r29 : zkr zsl kk_X12_opens 1 := ⟨rfl, rfl, by decide +kernel⟩
theorem zJ_c29 : zJ 145 263 1 false := zJ_q (fun Gn => hz_X11_opens) (fun Gn => hz_X12_opens) zk_c29 zk_r29 rfl rfl rfl rfl
theorem zk_c31 : zkqc kk_X11_first ec_X11_first_0 230 2 := ⟨rfl, rfl, rfl, rfl, rfl, rfl, by decide +kernel, by decide⟩
theorem zk_r31 : zkr zsl kk_X12_first 2 := ⟨rfl, rfl, by decide +kernel⟩
theorem zJ_c31 : zJ 147 268 2 false := zJ_q (fun Gn => hz_X11_first) (fun Gn => (hk_X12_first hz_X12_lays_5 hz_X12_lays_3 hz_X12_dropOf hz_X12_weekOfAll)) zk_c31 zk_r31 rfl rfl rfl rfl
theorem zk_c32 : zkqc kk_X11_wind ec_X11_wind_0 231 5 := ⟨rfl, rfl, rfl, rfl, rfl, rfl, by decide +kernel, by decide⟩
theorem zk_r32 : zkr zsl kk_X12_wind 5 := ⟨rfl, rfl, by decide +kernel⟩
theorem zJ_c32 : zJ 149 269 5 false := zJ_q (fun Gn => hz_X11_wind) (fun Gn => hz_X12_wind) zk_c32 zk_r32 rfl rfl rfl rfl
theorem zk_c35 : zkqc kk_X11_count ec_X11_count_0 238 1 := ⟨rfl, rfl, rfl, rfl, rfl, rfl, by decide +kernel, by decide⟩
theorem zk_r35 : zkr zsl kk_X12_count 1 := ⟨rfl, rfl, by decide +kernel⟩
theorem zJ_c35 : zJ 152 272 1 false := zJ_q (fun Gn => hz_X11_count) (fun Gn => hz_X12_count) zk_c35 zk_r35 rfl rfl rfl rfl
end
section
/-! ===== notes of both sides ===== -/
section JN
variable {X : cv_X} {Gn : Int} {h : cv_H}
theorem zX_po {K : cw_K} {R : cv_O → Prop} {k d : Nat} {as : List Int32} (hK : cw_Holds fk_all mt_all cw_Ds cw_sh Gn (cw_PP Gn) K) (hk : cw_sh[k]? = some d) (hd : d < 1000) (k5 : K.2.1 = .inr (.inr d) :: List.replicate as.length (.inl cw_top)) (k6 : K.2.2.2.2.2.2 = []) (hX : cw_Xok X) (hT : cw_T Gn h) (hP : cw_PP Gn h) (a : cw_X X K.1.1 R 0 (cv_ent 0 (cv_r k :: as.map cv_i)) [] h) : cw_X X K.1.1 (fun o => R o ∧ cw_Po cw_Ds cw_sh Gn (cw_PP Gn) K (cv_r k :: as.map cv_i) h o) 0 (cv_ent 0 (cv_r k :: as.map cv_i)) [] h :=
  cw_X_and a (cw_HX (av := cv_r k :: as.map cv_i) hK rfl hX ⟨hT, hP⟩ (by rw [k5]; exact ⟨.inl ⟨hd, k, rfl, hk⟩, zgas_r as⟩) (by rw [k6]; exact fun t ht => absurd ht List.not_mem_nil))
theorem zX_ef {K : cw_K} {E : ef_K} {ie : Nat} {R : cv_O → Prop} {as : List Int32} (k1 : ec_Ks[ie]? = some E) (k2 : E.1 = K.1.1) (k3 : E.2.1 = some [0] :: List.replicate as.length none) (k4 : E.2.2.1 = []) (f1 : ef_fok ec_TF h) (f2 : ef_rok ec_TR h) (a : cw_X X K.1.1 R 0 (cv_ent 0 (cv_r 0 :: as.map cv_i)) [] h) : cw_X X K.1.1 (fun o => R o ∧ ef_Post ec_TF ec_TR E h o) 0 (cv_ent 0 (cv_r 0 :: as.map cv_i)) [] h := by
  rw [← k2] at a ⊢
  exact ef_X ec_run (K := E) (List.mem_of_getElem? k1) (by rw [k3]; exact ⟨ef_ok_some (by decide), zok_r as⟩) f1 f2 (by rw [k4]; exact fun t ht => absurd ht List.not_mem_nil) a
theorem cq_known {Q : cv_O → Prop} (hT : cw_T Gn h) {c : Int} (hc : ri_at h 86 9 = c) (hc0 : 0 ≤ c ∧ c ≤ 40) (n : Int32) (hQ1 : ∀ x : Int32, x.toInt = 0 → ¬ (-1 ≤ n.toInt ∧ n.toInt ≤ c) → Q (some (cv_i x), h)) (hQ2 : -1 ≤ n.toInt ∧ n.toInt ≤ c → ∀ (x : Int32) h', cw_T Gn h' → x.toInt = 1 → cw_Wr h h' 86 10 (cv_i n) → Q (some (cv_i x), h')) : cw_X X 137 Q 0 (cv_ent 0 [cv_r 0, cv_i n]) [] h := by
  refine ex_il oq_X11_known_0 rfl ?_
  refine ex_ic oq_X11_known_1 (m := (-1)) (by decide) (fun x101 hx101 => ?_)
  refine ex_if oq_X11_known_2 (t := 16) rfl rfl (fun (c102 : n.toInt < x101.toInt) => ?_) (fun (c102 : ¬ (n.toInt < x101.toInt)) => ?_)
  · refine ex_ic oq_X11_known_16 (m := 0) (by decide) (fun x103 hx103 => ?_)
    exact ex_retb oq_X11_known_17 rfl (by omega) (by omega) (hQ1 x103 (by omega) (by omega))
  · refine ex_il oq_X11_known_5 rfl ?_
    refine ex_al oq_X11_known_6 rfl ?_
    refine ex_gf oq_X11_known_7 hT (k := 0) (d := 11) rfl rfl (ri_ref (k := 0) (k' := 86) (d := 11) (f := 12) hT rfl rfl rfl (by decide) (ri_uniq (by decide +kernel))) ?_
    obtain ⟨x104, ax104, rx104, lx104, ux104⟩ := ri_fld (k := 86) (d := 3) (f := 9) hT rfl rfl rfl
    try dsimp only at lx104 ux104
    refine ex_gf oq_X11_known_10 hT (k := 86) (d := 3) rfl rfl ax104 ?_
    have rx104 := (rx104.symm.trans hc : x104.toInt = c)
    refine ex_if oq_X11_known_13 (t := 18) rfl rfl (fun (c105 : n.toInt ≤ x104.toInt) => ?_) (fun (c105 : ¬ (n.toInt ≤ x104.toInt)) => ?_)
    · refine ex_al oq_X11_known_18 rfl ?_
      refine ex_gf oq_X11_known_19 hT (k := 0) (d := 11) rfl rfl (ri_ref (k := 0) (k' := 86) (d := 11) (f := 12) hT rfl rfl rfl (by decide) (ri_uniq (by decide +kernel))) ?_
      refine ex_il oq_X11_known_22 rfl ?_
      refine ex_pfi oq_X11_known_23 hT (k := 86) (d := 3) rfl rfl rfl (by omega) (by omega) (fun h106 Th106 wh106 => ?_)
      have eh106_86_9 : ri_at h106 86 9 = c := (ri_ne wh106 (.inr (by decide))).trans hc
      refine ex_ic oq_X11_known_26 (m := 1) (by decide) (fun x107 hx107 => ?_)
      exact ex_retb oq_X11_known_27 rfl (by omega) (by omega) (hQ2 (by omega) x107 h106 Th106 (by omega) wh106)
    · refine ex_ic oq_X11_known_16 (m := 0) (by decide) (fun x108 hx108 => ?_)
      exact ex_retb oq_X11_known_17 rfl (by omega) (by omega) (hQ1 x108 (by omega) (by omega))
theorem rq_known {Q : cv_O → Prop} (hT : cw_T Gn h) {c : Int} (hc : ri_at h 111 52 = c) (hc0 : 0 ≤ c ∧ c ≤ 40) (n : Int32) (hQ1 : ∀ (x : Int32) h', cw_T Gn h' → x.toInt = 0 → ¬ (-1 ≤ n.toInt ∧ n.toInt ≤ c) → (∃ z : Int32, cw_Wr h h' 111 2 (cv_i z)) → Q (some (cv_i x), h')) (hQ2 : -1 ≤ n.toInt ∧ n.toInt ≤ c → ∀ (x : Int32) h', cw_T Gn h' → x.toInt = 1 → (∀ k : Nat, k ≠ 111 → h'[k]? = h[k]?) → (∀ i, i ≠ 2 → i ≠ 53 → cw_at h' 111 i = cw_at h 111 i) → ri_at h' 111 53 = n.toInt → Q (some (cv_i x), h')) : cw_X X 240 Q 0 (cv_ent 0 [cv_r 111, cv_i n]) [] h := by
  refine ex_al oq_X12_known_0 rfl ?_
  refine ex_ic oq_X12_known_1 (m := 0) (by decide) (fun x101 hx101 => ?_)
  refine ex_pfi oq_X12_known_2 hT (k := 111) (d := 12) rfl rfl rfl (cw_i32 _).1 (cw_i32 _).2 (fun h102 Th102 wh102 => ?_)
  have eh102_111_52 : ri_at h102 111 52 = c := (ri_ne wh102 (.inr (by decide))).trans hc
  have eh102_111_2 : ri_at h102 111 2 = x101.toInt := ri_self wh102
  refine ex_il oq_X12_known_5 rfl ?_
  refine ex_ic oq_X12_known_6 (m := (-1)) (by decide) (fun x103 hx103 => ?_)
  refine ex_al oq_X12_known_7 rfl ?_
  obtain ⟨x104, ax104, rx104, lx104, ux104⟩ := fi_measures Th102
  refine ex_gf oq_X12_known_8 Th102 (k := 111) (d := 12) rfl rfl ax104 ?_
  have rx104 := (rx104.symm.trans eh102_111_52 : x104.toInt = c)
  refine ex_cs oq_X12_known_11 (by decide) (as := [cv_i n, cv_i x103, cv_i x104]) (stk := []) rfl rfl rfl ⟨rfl, rfl⟩ (R := fun o => ∃ x : Int32, o = (some (cv_i x), h102) ∧ (x.toInt = 1 ∧ x103.toInt ≤ n.toInt ∧ n.toInt ≤ x104.toInt ∨ x.toInt = 0 ∧ (n.toInt < x103.toInt ∨ x104.toInt < n.toInt))) (rt_isIn n x103 x104 (fun x q => ⟨x, rfl, q⟩)) (fun o ho => ?_)
  obtain ⟨x105, rfl, dx105⟩ := ho
  show cw_X _ _ _ _ _ [cv_i x105] h102
  refine ex_if0 oq_X12_known_14 (t := 19) rfl rfl (fun (c106 : ¬ x105.toInt = 0) => ?_) (fun (c106 : ¬ (¬ x105.toInt = 0)) => ?_)
  · refine ex_al oq_X12_known_19 rfl ?_
    refine ex_il oq_X12_known_20 rfl ?_
    refine ex_pfi oq_X12_known_21 Th102 (k := 111) (d := 12) rfl rfl rfl (by omega) (by omega) (fun h107 Th107 wh107 => ?_)
    have eh107_111_52 : ri_at h107 111 52 = c := (ri_ne wh107 (.inr (by decide))).trans eh102_111_52
    have eh107_111_2 : ri_at h107 111 2 = x101.toInt := (ri_ne wh107 (.inr (by decide))).trans eh102_111_2
    have eh107_111_53 : ri_at h107 111 53 = n.toInt := ri_self wh107
    refine ex_ic oq_X12_known_24 (m := 1) (by decide) (fun x108 hx108 => ?_)
    exact ex_retb oq_X12_known_25 rfl (by omega) (by omega) (hQ2 (by omega) x108 h107 Th107 (by omega) (fun k p => (wh107.2.2 k p).trans (wh102.2.2 k p)) (fun i p q => (wh107.2.1 111 i (.inr q)).trans (wh102.2.1 111 i (.inr p))) (ri_self wh107))
  · refine ex_ic oq_X12_known_17 (m := 0) (by decide) (fun x109 hx109 => ?_)
    exact ex_retb oq_X12_known_18 rfl (by omega) (by omega) (hQ1 x109 h102 Th102 (by omega) (by omega) ⟨_, wh102⟩)
end JN
end
section
/-! ===== feed, notes, weeks: both sides ===== -/
section JF
variable {X : cv_X} {Gn : Int} {h h1 h2 : cv_H}
theorem zX_poI {K : cw_K} {R : cv_O → Prop} {k d : Nat} {as : List Int32} (hK : cw_Holds fk_all mt_all cw_Ds cw_sh Gn (cw_PP Gn) K) (hk : cw_sh[k]? = some d) (hd : d < 1000) (k5 : K.2.1 = .inr (.inr d) :: List.replicate as.length (.inl cw_top)) (k6 : K.2.2.2.2.2.2 = []) (hX : cw_Xok X) (hT : cw_T Gn h) (hP : cw_PP Gn h) (a : cw_X X K.1.1 (fun o => cw_Po cw_Ds cw_sh Gn (cw_PP Gn) K (cv_r k :: as.map cv_i) h o → R o) 0 (cv_ent 0 (cv_r k :: as.map cv_i)) [] h) : cw_X X K.1.1 R 0 (cv_ent 0 (cv_r k :: as.map cv_i)) [] h :=
  cw_X_imp (zX_po hK hk hd k5 k6 hX hT hP a) (fun o w => w.1 w.2)
theorem zX_efI {K : cw_K} {E : ef_K} {ie : Nat} {R : cv_O → Prop} {as : List Int32} (k1 : ec_Ks[ie]? = some E) (k2 : E.1 = K.1.1) (k3 : E.2.1 = some [0] :: List.replicate as.length none) (k4 : E.2.2.1 = []) (f1 : ef_fok ec_TF h) (f2 : ef_rok ec_TR h) (a : cw_X X K.1.1 (fun o => ef_Post ec_TF ec_TR E h o → R o) 0 (cv_ent 0 (cv_r 0 :: as.map cv_i)) [] h) : cw_X X K.1.1 R 0 (cv_ent 0 (cv_r 0 :: as.map cv_i)) [] h :=
  cw_X_imp (zX_ef k1 k2 k3 k4 f1 f2 a) (fun o w => w.1 w.2)
theorem fr_slot {G' : Int} {m k d e ci : Nat} {fs : List cw_A} (hT : cw_T Gn h) (hT' : cw_T G' h1) (hF : cw_Fr cw_Ds cw_sh m h h1) (hk : cw_sh[k]? = some d) (hD : cw_Ds[d]? = some (.inr (.inr (.inr (ci, fs))))) (hl : fs.length ≤ 79) (q : (List.range 80).all (fun s => s == e || !cw_bit m d s) = true) {i : Nat} (hi : i ≠ e) : cw_at h1 k i = cw_at h k i := by
  by_cases c : i < 79
  · have := List.all_eq_true.mp q i (List.mem_range.mpr (by omega))
    rw [Bool.or_eq_true, beq_iff_eq, Bool.not_eq_true'] at this
    rcases this with u | u
    · exact absurd u hi
    · exact hF.2 k d i hk (by unfold cw_tch; rw [hD]; exact u)
  · have t1 := hT k d hk
    have t2 := hT' k d hk
    unfold cw_cell at t1 t2
    rw [hD] at t1 t2
    obtain ⟨vs, v1, v2, -⟩ := t1
    obtain ⟨ws, w1, w2, -⟩ := t2
    unfold cw_at
    rw [v1, w1]
    show ws[i]? = vs[i]?
    rw [List.getElem?_eq_none (by omega), List.getElem?_eq_none (by omega)]
theorem sh_11 {k : Nat} (h : cw_sh[k]? = some 11) : k = 0 := by
  have hlt := (List.getElem?_eq_some_iff.mp h).1
  have c : (List.range cw_sh.length).all (fun j => !(cw_sh[j]? == some 11) || j == 0) = true := by decide +kernel
  have := List.all_eq_true.mp c k (List.mem_range.mpr hlt)
  rw [h] at this
  simpa using this
theorem sh_13 {k : Nat} (h : cw_sh[k]? = some 13) : k = 1 := by
  have hlt := (List.getElem?_eq_some_iff.mp h).1
  have c : (List.range cw_sh.length).all (fun j => !(cw_sh[j]? == some 13) || j == 1) = true := by decide +kernel
  have := List.all_eq_true.mp c k (List.mem_range.mpr hlt)
  rw [h] at this
  simpa using this
theorem sh_12 {k : Nat} (h : cw_sh[k]? = some 12) : k = 111 := by
  have hlt := (List.getElem?_eq_some_iff.mp h).1
  have c : (List.range cw_sh.length).all (fun j => !(cw_sh[j]? == some 12) || j == 111) = true := by decide +kernel
  have := List.all_eq_true.mp c k (List.mem_range.mpr hlt)
  rw [h] at this
  simpa using this
theorem sh_51 {k : Nat} (h : cw_sh[k]? = some 51) : k = 112 := by
  have hlt := (List.getElem?_eq_some_iff.mp h).1
  have c : (List.range cw_sh.length).all (fun j => !(cw_sh[j]? == some 51) || j == 112) = true := by decide +kernel
  have := List.all_eq_true.mp c k (List.mem_range.mpr hlt)
  rw [h] at this
  simpa using this
/-- what feed may change of the class, of the reference -/
theorem feed_c (hT : cw_T Gn h) (hT' : cw_T Gn h1) (hF : cw_Fr cw_Ds cw_sh kk_X11_feed.2.2.2.2.2.1 h h1) {k i : Nat} (hk : k < 111) (h1k : k ≠ 1) (h0 : ¬ (k = 0 ∧ i = 1)) : cw_at h1 k i = cw_at h k i := by
  obtain ⟨d, hd, q⟩ := sh_c hk
  by_cases c11 : d = 11
  · subst c11
    have := sh_11 hd
    subst this
    exact fr_slot hT hT' hF (e := 1) (k := 0) (d := 11) rfl rfl (by decide) (by decide +kernel) (by omega)
  by_cases c13 : d = 13
  · subst c13; exact absurd (sh_13 hd) h1k
  have c : (List.range 51).all (fun d => d == 11 || (d == 12 || (d == 13 || lg_nk kk_X11_feed.2.2.2.2.2.1 d))) = true := by decide +kernel
  have u := List.all_eq_true.mp c d (List.mem_range.mpr (by omega))
  simp only [Bool.or_eq_true, beq_iff_eq] at u
  rcases u with u | u | u | u
  · exact absurd u c11
  · omega
  · exact absurd u c13
  · exact fr_same hT hT' hF hd u i
theorem feed_r (hT : cw_T Gn h) (hT' : cw_T Gn h1) (hF : cw_Fr cw_Ds cw_sh kk_X12_feed.2.2.2.2.2.1 h h1) {k i : Nat} (hk : 111 ≤ k) (hk2 : k < 149) (h1k : k ≠ 112) (h0 : ¬ (k = 111 ∧ (i = 1 ∨ i = 2))) : cw_at h1 k i = cw_at h k i := by
  obtain ⟨d, hd, q⟩ := sh_r hk hk2
  by_cases c11 : d = 12
  · subst c11
    have := sh_12 hd
    subst this
    by_cases ci : i < 79
    · have c : (List.range 80).all (fun s => s == 1 || (s == 2 || !cw_bit kk_X12_feed.2.2.2.2.2.1 12 s)) = true := by decide +kernel
      have u := List.all_eq_true.mp c i (List.mem_range.mpr (by omega))
      simp only [Bool.or_eq_true, beq_iff_eq, Bool.not_eq_true'] at u
      rcases u with u | u | u
      · omega
      · omega
      · exact hF.2 111 12 i rfl u
    · have t1 := hT 111 12 rfl
      have t2 := hT' 111 12 rfl
      unfold cw_cell at t1 t2
      dsimp only [cw_Ds] at t1 t2
      obtain ⟨vs, v1, v2, -⟩ := t1
      obtain ⟨ws, w1, w2, -⟩ := t2
      unfold cw_at
      rw [v1, w1]
      show ws[i]? = vs[i]?
      have v2' : vs.length = 69 := v2
      have w2' : ws.length = 69 := w2
      rw [List.getElem?_eq_none (by omega), List.getElem?_eq_none (by omega)]
  by_cases c51 : d = 51
  · subst c51; exact absurd (sh_51 hd) h1k
  have c : (List.range 37).all (fun d => d == 0 || lg_nk kk_X12_feed.2.2.2.2.2.1 (51 + d)) = true := by decide +kernel
  have u := List.all_eq_true.mp c (d - 51) (List.mem_range.mpr (by omega))
  simp only [Bool.or_eq_true, beq_iff_eq] at u
  rcases u with u | u
  · omega
  · rw [show 51 + (d - 51) = d from by omega] at u
    exact fr_same hT hT' hF hd u i
theorem zCE_f {p : zPp} {q : zQs} (e : ∀ k i, k < 111 → k ≠ 1 → ¬ (k = 0 ∧ i = 1) → cw_at h1 k i = cw_at h k i) (hng : zng p ≤ 4) (a : zCE h p q) : zCE h1 p q := by
  have f := a.1
  have cF : ec_TF.all (fun t => Nat.ble (t.1 + 1) 111 && (!(t.1 == 1) && !(t.1 == 0 && t.2.1 == 1))) = true := by decide
  have cR : ec_TR.all (fun t => Nat.ble (t.1 + 1) 111 && (!(t.1 == 1) && !(t.1 == 0))) = true := by decide
  refine zCE_q a hng (fun i u => e 0 i (by omega) (by omega) (by omega)) (fun k i u => e k i (by omega) (by omega) (by omega)) (ef_fok_e (fun t ht => ?_) f.1) (ef_rok_e (fun t ht i => ?_) f.2.1)
  · have u := List.all_eq_true.mp cF t ht
    simp only [Bool.and_eq_true, Nat.ble_eq, Bool.not_eq_true', beq_eq_false_iff_ne, Bool.and_eq_false_iff] at u
    exact e _ _ (by omega) u.2.1 (by rintro ⟨c1, c2⟩; rcases u.2.2 with c | c; exact c c1; exact c c2)
  · have u := List.all_eq_true.mp cR t ht
    simp only [Bool.and_eq_true, Nat.ble_eq, Bool.not_eq_true', beq_eq_false_iff_ne] at u
    exact e _ _ (by omega) u.2.1 (by omega)
theorem zJ_c0 : zJ 107 155 5 true := by
  intro X Gn h as hX ha hT hP he
  match as, ha with
  | [a1, a2, a3, a4, a5], _ =>
  obtain ⟨⟨e1, e2, e3⟩, no, p, q, go, ce, rq⟩ := he
  obtain ⟨cN, hcN⟩ : ∃ cN : Nat, ri_at h 0 1 = cN := by
    obtain ⟨x, -, r1, r2, r3⟩ := ri_fld (k := 0) (d := 11) (f := 1) hT rfl rfl rfl
    dsimp only at r2 r3
    exact ⟨(ri_at h 0 1).toNat, by omega⟩
  refine ct_feed hT a1 a2 a3 a4 a5 hcN (fun x h1 hT1 hF1 w1 => ⟨x, h1, rfl, hT1, hF1.1 149 rfl, ?_⟩)
  have hP1 : cw_PP Gn h1 := pp_fr0 (by decide +kernel) hP hF1
  have s1 := lg_nr_e hT hT1 hF1 (by decide +kernel)
  have t1 : ri_at h1 111 1 = ri_at h 111 1 := ri_eq (s1 111 1 (by decide) (by decide))
  refine rt_feed hT1 a1 a2 a3 a4 a5 (c := cN) (by omega) (fun y h3 hT3 hF3 w3 => ?_)
  have s3 := lg_nc_e hT1 hT3 hF3 (by decide +kernel)
  have t3 : ri_at h3 0 1 = ri_at h1 0 1 := ri_eq (s3 0 1 (by decide))
  have r3 : ∀ k i, 111 ≤ k → k < 149 → k ≠ 112 → ¬ (k = 111 ∧ (i = 1 ∨ i = 2)) → cw_at h3 k i = cw_at h k i := fun k i a b c d => (feed_r hT1 hT3 hF3 a b c d).trans (s1 k i a b)
  refine ⟨y, Gn, h3, rfl, hT3, pp_fr0 (by decide +kernel) hP1 hF3, ⟨⟨by omega, fun i hi => ?_, fun i hi => ?_⟩, zNo_e (fun i _ => (s3 86 i (by decide)).trans (feed_c hT hT1 hF1 (by decide) (by decide) (by omega))) (fun i u => r3 111 i (by decide) (by decide) (by decide) (by omega)) no, p, q, go, zCE_f (fun k i a b c => (s3 k i a).trans (feed_c hT hT1 hF1 a b c)) (zGo_g go).1 ce, zRp_e (fun k i u v => r3 k i (by omega) (by omega) (by omega) (by omega)) (fun i u => r3 111 i (by decide) (by decide) (by decide) (by omega)) rq.1, zRq_e (fun i => r3 130 i (by decide) (by decide) (by decide) (by omega)) (fun i => r3 135 i (by decide) (by decide) (by decide) (by omega)) (fun i => r3 148 i (by decide) (by decide) (by decide) (by omega)) (fun i u => r3 111 i (by decide) (by decide) (by decide) (by omega)) rq.2⟩, (hF3.1 149 rfl).trans (hF1.1 149 rfl), fun _ => Int32.toInt_inj.mp (by omega)⟩
  · have r1 : ri_at h3 1 i = ri_at h1 1 i := ri_eq (s3 1 i (by decide))
    have r2 : ri_at h1 112 i = ri_at h 112 i := ri_eq (s1 112 i (by decide) (by decide))
    rw [r1]
    rcases w1 with ⟨a1, a2, a3, a4⟩ | ⟨a1, a2, a3, a4⟩
    · rcases w3 with ⟨b1, b2, b3, b4⟩ | ⟨b1, b2, b3, b4⟩
      · rw [a4, b4, r2]
        exact e2 i (by omega)
      · omega
    · rcases w3 with ⟨b1, b2, b3, b4⟩ | ⟨b1, b2, b3, b4⟩
      · omega
      · by_cases c : i < cN
        · rw [a4.2 i (.inl c), b4.2 i (.inl c), r2]
          exact e2 i (by omega)
        · have u1 := a4.1 (i - cN) (by omega)
          have u2 := b4.1 (i - cN) (by omega)
          rw [show cN + (i - cN) = i from by omega] at u1 u2
          exact u1.trans u2.symm
  · rw [ri_eq (s3 52 i (by decide)), ri_eq (feed_c hT hT1 hF1 (k := 52) (i := i) (by decide) (by decide) (by omega))]
    exact e3 i hi
/-- slots that notes leave alone -/
abbrev zsn : List Nat := [1, 12, 13, 14, 15, 43, 50, 66, 67]
theorem lg_E_N (a : lg_E h) (z : zQ0 h h1) (r : zQR zsn h1 h2) (n : zNo h2) : lg_E h2 := by
  obtain ⟨a1, -, p, q, a2, a3, a4⟩ := a
  obtain ⟨z1, z2, z4, z5⟩ := z
  obtain ⟨r1, r2, r3⟩ := r
  have hi4 : ∀ i, i = 12 ∨ i = 13 ∨ i = 14 ∨ i = 15 → cw_at h2 111 i = cw_at h 111 i := fun i hi => (r3 i (by simp only [List.mem_cons, List.not_mem_nil, or_false]; omega)).trans (z1 111 i (by decide) (by decide))
  refine ⟨zTa_e (fun k i hk => ?_) a1, n, p, q, a2, zCE_r r1 (zGo_g a2).1 (zCE_q a3 (zGo_g a2).1 (fun i _ => z2 0 i (by omega)) (fun k i u => z2 k i (by omega)) z4 z5), zRp_e (fun k i u v => (r2 k i (by omega)).trans (z1 k i (by omega) (by omega))) hi4 a4.1, zRq_e (fun i => (r2 130 i (by omega)).trans (z1 130 i (by decide) (by decide))) (fun i => (r2 135 i (by omega)).trans (z1 135 i (by decide) (by decide))) (fun i => (r2 148 i (by omega)).trans (z1 148 i (by decide) (by decide))) (fun i hi => (r3 i (by simp only [List.mem_cons, List.not_mem_nil, or_false]; omega)).trans (z1 111 i (by decide) (by decide))) a4.2⟩
  rcases hk with ⟨rfl, rfl⟩ | ⟨rfl, rfl⟩ | rfl | rfl | rfl
  · exact (r1 0 1 (by decide)).trans (z2 0 1 (by omega))
  · exact (r3 1 (by decide)).trans (z1 111 1 (by decide) (by decide))
  · exact (r1 1 i (by decide)).trans (z2 1 i (by omega))
  · exact (r2 112 i (by omega)).trans (z1 112 i (by decide) (by decide))
  · exact (r1 52 i (by decide)).trans (z2 52 i (by omega))
theorem zq0 {m : Nat} {E : ef_K} {o : Option cv_V} (hT : cw_T Gn h) (hT1 : cw_T Gn h1) (hF : cw_Fr cw_Ds cw_sh m h h1) (b : lg_nr m = true) (w : zWn E.2.2.2.2.2 = true) (fp : ef_Post ec_TF ec_TR E h (o, h1)) : zQ0 h h1 := ⟨lg_nr_e hT hT1 hF b, fun k i u => fp.2.2.2.1 k i (zWn_no w u), fp.1, fp.2.1⟩
theorem zqR {G' : Int} {m : Nat} {sl : List Nat} (hT : cw_T Gn h) (hT1 : cw_T G' h1) (hF : cw_Fr cw_Ds cw_sh m h h1) (b : lg_qr sl m = true) : zQR sl h h1 := by
  unfold lg_qr at b
  rw [Bool.and_eq_true, Bool.and_eq_true, List.all_eq_true, List.all_eq_true] at b
  obtain ⟨b1, b2, b3⟩ := b
  refine ⟨lg_nc_e hT hT1 hF b1, fun k i u => ?_, fun i u => ?_⟩
  · have c : ∀ j : Fin 38, (111 + j.1 = 111 ∨ 111 + j.1 = 128 ∨ 111 + j.1 = 129 ∨ 131 ≤ 111 + j.1 ∧ 111 + j.1 ≤ 134 ∨ 136 ≤ 111 + j.1 ∧ 111 + j.1 ≤ 147) ∨ ∃ d, d ∈ ([51, 52, 53, 54, 55, 56, 57, 58, 59, 60, 61, 62, 63, 64, 65, 66, 69, 74, 87] : List Nat) ∧ cw_sh[111 + j.1]? = some d := by decide +kernel
    rcases c ⟨k - 111, by omega⟩ with c | ⟨d, hd, hs⟩
    · dsimp only at c; omega
    · dsimp only at hs
      rw [show 111 + (k - 111) = k from by omega] at hs
      exact fr_same hT hT1 hF hs (b3 d hd) i
  · have := b2 i u
    rw [Bool.not_eq_true'] at this
    exact hF.2 111 12 i rfl this
theorem zJ_c19 : zJ 135 238 5 true := by
  intro X Gn h as hX ha hT hP he
  match as, ha with
  | [g, w, q, lo, hi], _ =>
  have he0 := he
  obtain ⟨-, no, p, qq, go, ⟨⟨f1, f2, -⟩, b, cp, -⟩, rp, -⟩ := he
  have hb4 : cw_sh[b]? = some 4 := (zKi cp.1).1
  refine zX_efI (K := kk_X11_measure) (E := ec_X11_measure_0) (ie := 178) (as := [g, w, q, lo, hi]) rfl rfl rfl rfl f1 f2 ?_
  refine ct_measure hT hP hb4 cp.2.1 cp.2.2.2.1.1 rfl g w q lo hi (fun x h1 hT1 hP1 hF1 w1 fp => ⟨x, h1, rfl, hT1, hF1.1 149 rfl, ?_⟩)
  have z := zq0 hT hT1 hF1 (by decide +kernel) (by decide) fp
  have e52 : ri_at h1 111 52 = ri_at h 111 52 := ri_eq (z.1 111 52 (by decide) (by decide))
  have e12 : ri_at h1 111 12 = ri_at h 111 12 := ri_eq (z.1 111 12 (by decide) (by decide))
  refine rt_measure hX hT1 hP1 (e12.trans rp.1.1) e52 g w q lo hi (fun y h2 hT2 hP2 hF2 w2 => ?_)
  have r := zqR (sl := zsn) hT1 hT2 hF2 (by decide +kernel)
  have u86 : ri_at h2 86 9 = ri_at h1 86 9 := ri_eq (r.1 86 9 (by decide))
  have v86 : ri_at h2 86 10 = ri_at h1 86 10 := ri_eq (r.1 86 10 (by decide))
  have x86 : ri_at h1 86 10 = ri_at h 86 10 := ri_eq (fp.2.2.2.1 86 10 (by decide))
  have y53 : ri_at h2 111 53 = ri_at h1 111 53 := ri_frf hF2 (k := 111) (d := 12) rfl rfl (by decide +kernel)
  have x53 : ri_at h1 111 53 = ri_at h 111 53 := ri_eq (z.1 111 53 (by decide) (by decide))
  have n1 := no.1
  have n2 := no.2
  exact ⟨y, Gn, h2, rfl, hT2, hP2, lg_E_N he0 z r ⟨by omega, by omega⟩, (hF2.1 149 rfl).trans (hF1.1 149 rfl), fun _ => Int32.toInt_inj.mp (by omega)⟩
theorem zJ_c20 : zJ 136 239 1 true := by
  intro X Gn h as hX ha hT hP he
  match as, ha with
  | [m], _ =>
  have he0 := he
  obtain ⟨-, no, p, qq, go, ⟨⟨f1, f2, -⟩, b, cp, -⟩, rp, -⟩ := he
  refine zX_efI (K := kk_X11_strike) (E := ec_X11_strike_0) (ie := 180) (as := [m]) rfl rfl rfl rfl f1 f2 ?_
  refine ct_strike hT hP rfl m (fun x h1 hT1 hP1 hF1 w1 fp => ⟨x, h1, rfl, hT1, hF1.1 149 rfl, ?_⟩)
  have z := zq0 hT hT1 hF1 (by decide +kernel) (by decide) fp
  have e52 : ri_at h1 111 52 = ri_at h 111 52 := ri_eq (z.1 111 52 (by decide) (by decide))
  refine rt_strike hX hT1 hP1 e52 m (fun y h2 hT2 hP2 hF2 w2 => ?_)
  have r := zqR (sl := zsn) hT1 hT2 hF2 (by decide +kernel)
  have u86 : ri_at h2 86 9 = ri_at h1 86 9 := ri_eq (r.1 86 9 (by decide))
  have v86 : ri_at h2 86 10 = ri_at h1 86 10 := ri_eq (r.1 86 10 (by decide))
  have x86 : ri_at h1 86 10 = ri_at h 86 10 := ri_eq (fp.2.2.2.1 86 10 (by decide))
  have y53 : ri_at h2 111 53 = ri_at h1 111 53 := ri_frf hF2 (k := 111) (d := 12) rfl rfl (by decide +kernel)
  have x53 : ri_at h1 111 53 = ri_at h 111 53 := ri_eq (z.1 111 53 (by decide) (by decide))
  have n1 := no.1
  have n2 := no.2
  exact ⟨y, Gn, h2, rfl, hT2, hP2, lg_E_N he0 z r ⟨by omega, by omega⟩, (hF2.1 149 rfl).trans (hF1.1 149 rfl), fun _ => Int32.toInt_inj.mp (by omega)⟩
theorem zJ_c21 : zJ 137 240 1 true := by
  intro X Gn h as hX ha hT hP he
  match as, ha with
  | [m], _ =>
  have he0 := he
  obtain ⟨-, no, p, qq, go, ⟨⟨f1, f2, -⟩, b, cp, -⟩, rp, -⟩ := he
  have c0 : 0 ≤ ri_at h 86 9 ∧ ri_at h 86 9 ≤ 40 := by
    obtain ⟨x, -, r1, r2, r3⟩ := ri_fld (k := 86) (d := 3) (f := 9) hT rfl rfl rfl
    dsimp only at r2 r3
    omega
  refine zX_poI (K := kk_X11_known) hz_X11_known (k := 0) (d := 11) (as := [m]) rfl (by decide) rfl rfl hX hT hP ?_
  refine zX_efI (K := kk_X11_known) (E := ec_X11_known_0) (ie := 181) (as := [m]) rfl rfl rfl rfl f1 f2 ?_
  have fin : ∀ (x : Int32) (h1 : cv_H), cw_T Gn h1 → (x.toInt = 0 ∧ ¬ (-1 ≤ m.toInt ∧ m.toInt ≤ ri_at h 86 9) ∧ ri_at h1 86 9 = ri_at h 86 9 ∧ ri_at h1 86 10 = ri_at h 86 10 ∨ x.toInt = 1 ∧ (-1 ≤ m.toInt ∧ m.toInt ≤ ri_at h 86 9) ∧ ri_at h1 86 9 = ri_at h 86 9 ∧ ri_at h1 86 10 = m.toInt) → ef_Post ec_TF ec_TR ec_X11_known_0 h (some (cv_i x), h1) → cw_Po cw_Ds cw_sh Gn (cw_PP Gn) kk_X11_known (cv_r 0 :: [m].map cv_i) h (some (cv_i x), h1) → ∃ (x' : Int32) (h1' : cv_H), (some (cv_i x), h1) = (some (cv_i x'), h1') ∧ cw_T Gn h1' ∧ h1'[149]? = h[149]? ∧ cw_X X 240 (fun o => ∃ (y : Int32) (G2 : Int) (h2 : cv_H), o = (some (cv_i y), h2) ∧ cw_T G2 h2 ∧ cw_PP G2 h2 ∧ lg_E h2 ∧ h2[149]? = h[149]? ∧ (true = true → x' = y)) 0 (cv_ent 0 (cv_r 111 :: [m].map cv_i)) [] h1' := by
    intro x h1 hT1 w1 fp po
    have hP1 : cw_PP Gn h1 := po.2.1.2
    have hF1 : cw_Fr cw_Ds cw_sh kk_X11_known.2.2.2.2.2.1 h h1 := po.2.2.1
    refine ⟨x, h1, rfl, hT1, hF1.1 149 rfl, ?_⟩
    have z := zq0 hT hT1 hF1 (by decide +kernel) (by decide) fp
    have e52 : ri_at h1 111 52 = ri_at h 111 52 := ri_eq (z.1 111 52 (by decide) (by decide))
    have e53 : ri_at h1 111 53 = ri_at h 111 53 := ri_eq (z.1 111 53 (by decide) (by decide))
    have n1 := no.1
    have n2 := no.2
    refine zX_poI (K := kk_X12_known) hz_X12_known (k := 111) (d := 12) (as := [m]) rfl (by decide) rfl rfl hX hT1 hP1 ?_
    have e52' : ri_at h1 111 52 = ri_at h 86 9 := by omega
    refine rq_known hT1 e52' c0 m (fun y h2 hT2 ey cy wy po2 => ?_) (fun cy y h2 hT2 ey k1 k2 k3 po2 => ?_)
    · have hF2 : cw_Fr cw_Ds cw_sh kk_X12_known.2.2.2.2.2.1 h1 h2 := po2.2.2.1
      have r := zqR (sl := zsn) hT1 hT2 hF2 (by decide +kernel)
      obtain ⟨z0, wz⟩ := wy
      have a1 : ri_at h2 111 52 = ri_at h1 111 52 := ri_ne wz (.inr (by decide))
      have a2 : ri_at h2 111 53 = ri_at h1 111 53 := ri_ne wz (.inr (by decide))
      have a3 : ri_at h2 86 9 = ri_at h1 86 9 := ri_eq (r.1 86 9 (by decide))
      have a4 : ri_at h2 86 10 = ri_at h1 86 10 := ri_eq (r.1 86 10 (by decide))
      exact ⟨y, Gn, h2, rfl, hT2, po2.2.1.2, lg_E_N he0 z r ⟨by omega, by omega⟩, (hF2.1 149 rfl).trans (hF1.1 149 rfl), fun _ => Int32.toInt_inj.mp (by omega)⟩
    · have hF2 : cw_Fr cw_Ds cw_sh kk_X12_known.2.2.2.2.2.1 h1 h2 := po2.2.2.1
      have r := zqR (sl := zsn) hT1 hT2 hF2 (by decide +kernel)
      have a1 : ri_at h2 111 52 = ri_at h1 111 52 := ri_eq (k2 52 (by decide) (by decide))
      have a3 : ri_at h2 86 9 = ri_at h1 86 9 := ri_eq (r.1 86 9 (by decide))
      have a4 : ri_at h2 86 10 = ri_at h1 86 10 := ri_eq (r.1 86 10 (by decide))
      exact ⟨y, Gn, h2, rfl, hT2, po2.2.1.2, lg_E_N he0 z r ⟨by omega, by omega⟩, (hF2.1 149 rfl).trans (hF1.1 149 rfl), fun _ => Int32.toInt_inj.mp (by omega)⟩
  refine cq_known hT rfl c0 m (fun x ex cx fp po => fin x h hT (.inl ⟨ex, cx, rfl, rfl⟩) fp po) (fun cx x h1 hT1 ex wx fp po => fin x h1 hT1 (.inr ⟨ex, cx, ri_ne wx (.inr (by decide)), ri_self wx⟩) fp po)
/-- a gate's numbers from the fourth on stay over weeks -/
theorem gPs_j {T g : Nat → Int} {LL : Nat → Option (List Int)} : ∀ {n : Nat} {w : Int} {γ : Nat → Int} {j : Nat}, 4 ≤ j → gPs T g LL n w γ j = γ j
  | 0, w, γ, j, hj => rfl
  | n + 1, w, γ, j, hj => (gPs_j (n := n) (γ := gWk T g LL w γ) hj).trans (by unfold gWk gGrow; rw [zgU_ne (by omega), zgU_ne (by omega), zgU_ne (by omega)])
theorem zCE_w {p : zPp} {q : zQs} {W' : Int} {γs' : Nat → Nat → Int} (a : zCE h p q) (hng : zng p ≤ 4) (fr : ef_fr ec_X11_weeks_0.2.2.2.2.2 h h1) (f1 : ef_fok ec_TF h1) (f2 : ef_rok ec_TR h1) (hW : ri_at h1 0 8 = W') (hγ : ∀ g, g < zng p → ∀ j, 4 ≤ j → γs' g j = q.2.1 g j) : zCE h1 p (W', γs', q.2.2) := by
  obtain ⟨⟨-, -, r3, r4, r5⟩, b, cp, Bf, γc, υc, ιc, a1, a2, a3, a4, a5, a6, a7, a8⟩ := a
  have hb := cp.1
  have m0 : ∀ k i, (1 ≤ k ∧ k ≤ 54 ∨ 59 ≤ k ∧ k ≤ 102) → cw_at h1 k i = cw_at h k i := fun k i u => fr k i (by
    refine ef_may_no (List.all_eq_true.mpr (fun w hw => ?_))
    have c : ec_X11_weeks_0.2.2.2.2.2.all (fun w => w.1 == 0 || ((Nat.ble 55 w.1 && Nat.ble w.1 58) || Nat.ble 103 w.1)) = true := by decide
    have q := List.all_eq_true.mp c w hw
    simp only [Bool.or_eq_true, Bool.and_eq_true, Nat.ble_eq, beq_iff_eq] at q
    rw [Bool.not_eq_true', beq_eq_false_iff_ne]
    omega)
  have m1 : ∀ k i, (k = 104 ∨ k = 106 ∨ k = 108 ∨ k = 110) → cw_at h1 k i = cw_at h k i := fun k i u => fr k i (by rcases u with rfl | rfl | rfl | rfl <;> exact ef_may_no (by decide))
  have m2 : ∀ i, i = 2 ∨ i = 3 ∨ i = 10 → cw_at h1 0 i = cw_at h 0 i := fun i u => fr 0 i (by rcases u with rfl | rfl | rfl <;> decide)
  have m3 : ∀ g j, g < 4 → (j = 0 ∨ 4 ≤ j ∧ j ≤ 16) → cw_at h1 (103 + 2 * g) j = cw_at h (103 + 2 * g) j := fun g j hg u => fr _ j (by
    have c : ∀ g : Fin 4, ∀ j : Fin 17, (j.1 = 0 ∨ 4 ≤ j.1) → ef_may ec_X11_weeks_0.2.2.2.2.2 (103 + 2 * g.1) j.1 = false := by decide
    exact c ⟨g, hg⟩ ⟨j, by omega⟩ (by show j = 0 ∨ 4 ≤ j; omega))
  refine ⟨⟨f1, f2, fun g hg => ⟨(m0 61 g (by omega)).trans (r3 g hg).1, (m0 62 g (by omega)).trans (r3 g hg).2⟩, zPM_a (.inl rfl) (fun k i u v => m0 k i (by omega)) r4, zPM_a (.inr rfl) (fun k i u v => m0 k i (by omega)) r5⟩, b, zCp_e (fun i u => m2 i (by omega)) (fun k i u v => m0 k i (by omega)) hng cp, Bf, fun g j => ri_at h1 (103 + 2 * g) j, υc, ιc, fun g hg => ⟨fun j hj => rfl, (m3 g 0 (by omega) (.inl rfl)).trans (a1 g hg).2⟩, fun g hg j hj hj2 => ?_, zUB_a (fun k i u v => m0 k i (by omega)) a3, zUS_a (fun k i u v => m0 k i (by omega)) a3 a4, a5, hW, (ri_eq (m2 10 (by omega))).trans a7, fun c g hg => ?_⟩
  · have hj4 : 4 ≤ j := hj
    show ri_at h1 (103 + 2 * g) j = γs' g j
    rw [hγ g hg j hj4]
    exact (ri_eq (m3 g j (by omega) (.inr ⟨hj4, hj2⟩))).trans (((a1 g hg).1 j ⟨by omega, hj2⟩).trans (a2 g hg j hj hj2))
  · obtain ⟨c1, c2, c3⟩ := a8 c g hg
    have e := fun i => m1 (104 + 2 * g) i (by omega)
    exact ⟨zGV_a e c1, (e 0).trans c2, c3⟩
end JF
end
