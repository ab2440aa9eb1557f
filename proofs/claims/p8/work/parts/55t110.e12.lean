/-! ===== notes of both sides ===== -/
section JN
variable {X : cv_X} {Gn : Int} {h : cv_H}
theorem zX_po {K : cw_K} {R : cv_O → Prop} {k d : Nat} {as : List Int32} (hK : cw_Holds fk_all mt_all cw_Ds cw_sh Gn (cw_PP Gn) K) (hk : cw_sh[k]? = some d) (hd : d < 1000) (k5 : K.2.1 = .inr (.inr d) :: List.replicate as.length (.inl cw_top)) (k6 : K.2.2.2.2.2.2 = []) (hX : cw_Xok X) (hT : cw_T Gn h) (hP : cw_PP Gn h) (a : cw_X X K.1.1 R 0 (cv_ent 0 (cv_r k :: as.map cv_i)) [] h) : cw_X X K.1.1 (fun o => R o ∧ cw_Po cw_Ds cw_sh Gn (cw_PP Gn) K (cv_r k :: as.map cv_i) h o) 0 (cv_ent 0 (cv_r k :: as.map cv_i)) [] h :=
  cw_X_and a (cw_HX (av := cv_r k :: as.map cv_i) hK rfl hX ⟨hT, hP⟩ (by rw [k5]; exact ⟨.inl ⟨hd, k, rfl, hk⟩, zgas_r as⟩) (by rw [k6]; exact fun t ht => absurd ht List.not_mem_nil))
theorem zX_ef {K : cw_K} {E : ef_K} {ie : Nat} {R : cv_O → Prop} {as : List Int32} (k1 : ec_Ks[ie]? = some E) (k2 : E.1 = K.1.1) (k3 : E.2.1 = some [0] :: List.replicate as.length none) (k4 : E.2.2.1 = []) (f1 : ef_fok ec_TF h) (f2 : ef_rok ec_TR h) (a : cw_X X K.1.1 R 0 (cv_ent 0 (cv_r 0 :: as.map cv_i)) [] h) : cw_X X K.1.1 (fun o => R o ∧ ef_Post ec_TF ec_TR E h o) 0 (cv_ent 0 (cv_r 0 :: as.map cv_i)) [] h := by
  rw [← k2] at a ⊢
  exact ef_X ec_run (K := E) (List.mem_of_getElem? k1) (by rw [k3]; exact ⟨ef_ok_some (by decide), zok_r as⟩) f1 f2 (by rw [k4]; exact fun t ht => absurd ht List.not_mem_nil) a
theorem zsl_m {i : Nat} {sl : List Nat} {h' : cv_H} {l : List Nat} (z : ∀ i, i ∈ sl → cw_at h' 111 i = cw_at h 111 i) (hl : l.all (fun i => sl.contains i) = true) (hi : i ∈ l) : cw_at h' 111 i = cw_at h 111 i := z i (List.contains_iff_mem.mp (List.all_eq_true.mp hl i hi))
theorem cq_known {Q : cv_O → Prop} (hT : cw_T Gn h) {c : Int} (hc : ri_at h 86 9 = c) (hc0 : 0 ≤ c ∧ c ≤ 40) (n : Int32) (hQ1 : ∀ x : Int32, x.toInt = 0 → ¬ (-1 ≤ n.toInt ∧ n.toInt ≤ c) → Q (some (cv_i x), h)) (hQ2 : -1 ≤ n.toInt ∧ n.toInt ≤ c → ∀ (x : Int32) h', cw_T Gn h' → x.toInt = 1 → cw_Wr h h' 86 10 (cv_i n) → Q (some (cv_i x), h')) : cw_X X 137 Q 0 (cv_ent 0 [cv_r 0, cv_i n]) [] h := by
  refine ex_il oq_X11_known_0 rfl ?_
  refine ex_ic oq_X11_known_1 (m := (-1)) (by decide) (fun x101 hx101 => ?_)
  refine ex_if oq_X11_known_2 (t := 16) rfl rfl (fun (c102 : n.toInt < x101.toInt) => ?_) (fun (c102 : ¬ (n.toInt < x101.toInt)) => ?_)
  · refine ex_ic oq_X11_known_16 (m := 0) (by decide) (fun x103 hx103 => ?_)
    exact ex_retb oq_X11_known_17 rfl (by omega) (by omega) (hQ1 x103 (by omega) (by omega))
  · refine ex_il oq_X11_known_5 rfl ?_
    refine ex_al oq_X11_known_6 rfl ?_
    refine ex_gf oq_X11_known_7 hT (k := 0) (d := 11) rfl rfl (ri_ref (k := 0) (k' := 86) (d := 11) (f := 12) hT rfl rfl rfl (by decide) (ri_uniq (by decide +kernel))) ?_
    obtain ⟨x104, ax104, rx104, lx104, ux104⟩ := ri_fld (k := 86) (d := 3) (f := 9) hT rfl rfl rfl
    try dsimp only at lx104 ux104
    refine ex_gf oq_X11_known_10 hT (k := 86) (d := 3) rfl rfl ax104 ?_
    have rx104 := (rx104.symm.trans hc : x104.toInt = c)
    refine ex_if oq_X11_known_13 (t := 18) rfl rfl (fun (c105 : n.toInt ≤ x104.toInt) => ?_) (fun (c105 : ¬ (n.toInt ≤ x104.toInt)) => ?_)
    · refine ex_al oq_X11_known_18 rfl ?_
      refine ex_gf oq_X11_known_19 hT (k := 0) (d := 11) rfl rfl (ri_ref (k := 0) (k' := 86) (d := 11) (f := 12) hT rfl rfl rfl (by decide) (ri_uniq (by decide +kernel))) ?_
      refine ex_il oq_X11_known_22 rfl ?_
      refine ex_pfi oq_X11_known_23 hT (k := 86) (d := 3) rfl rfl rfl (by omega) (by omega) (fun h106 Th106 wh106 => ?_)
      have eh106_86_9 : ri_at h106 86 9 = c := (ri_ne wh106 (.inr (by decide))).trans hc
      refine ex_ic oq_X11_known_26 (m := 1) (by decide) (fun x107 hx107 => ?_)
      exact ex_retb oq_X11_known_27 rfl (by omega) (by omega) (hQ2 (by omega) x107 h106 Th106 (by omega) wh106)
    · refine ex_ic oq_X11_known_16 (m := 0) (by decide) (fun x108 hx108 => ?_)
      exact ex_retb oq_X11_known_17 rfl (by omega) (by omega) (hQ1 x108 (by omega) (by omega))
theorem rq_known {Q : cv_O → Prop} (hT : cw_T Gn h) {c : Int} (hc : ri_at h 111 52 = c) (hc0 : 0 ≤ c ∧ c ≤ 40) (n : Int32) (hQ1 : ∀ (x : Int32) h', cw_T Gn h' → x.toInt = 0 → ¬ (-1 ≤ n.toInt ∧ n.toInt ≤ c) → (∃ z : Int32, cw_Wr h h' 111 2 (cv_i z)) → Q (some (cv_i x), h')) (hQ2 : -1 ≤ n.toInt ∧ n.toInt ≤ c → ∀ (x : Int32) h', cw_T Gn h' → x.toInt = 1 → (∀ k : Nat, k ≠ 111 → h'[k]? = h[k]?) → (∀ i, i ≠ 2 → i ≠ 53 → cw_at h' 111 i = cw_at h 111 i) → ri_at h' 111 53 = n.toInt → Q (some (cv_i x), h')) : cw_X X 240 Q 0 (cv_ent 0 [cv_r 111, cv_i n]) [] h := by
  refine ex_al oq_X12_known_0 rfl ?_
  refine ex_ic oq_X12_known_1 (m := 0) (by decide) (fun x101 hx101 => ?_)
  refine ex_pfi oq_X12_known_2 hT (k := 111) (d := 12) rfl rfl rfl (cw_i32 _).1 (cw_i32 _).2 (fun h102 Th102 wh102 => ?_)
  have eh102_111_52 : ri_at h102 111 52 = c := (ri_ne wh102 (.inr (by decide))).trans hc
  have eh102_111_2 : ri_at h102 111 2 = x101.toInt := ri_self wh102
  refine ex_il oq_X12_known_5 rfl ?_
  refine ex_ic oq_X12_known_6 (m := (-1)) (by decide) (fun x103 hx103 => ?_)
  refine ex_al oq_X12_known_7 rfl ?_
  obtain ⟨x104, ax104, rx104, lx104, ux104⟩ := fi_measures Th102
  refine ex_gf oq_X12_known_8 Th102 (k := 111) (d := 12) rfl rfl ax104 ?_
  have rx104 := (rx104.symm.trans eh102_111_52 : x104.toInt = c)
  refine ex_cs oq_X12_known_11 (by decide) (as := [cv_i n, cv_i x103, cv_i x104]) (stk := []) rfl rfl rfl ⟨rfl, rfl⟩ (R := fun o => ∃ x : Int32, o = (some (cv_i x), h102) ∧ (x.toInt = 1 ∧ x103.toInt ≤ n.toInt ∧ n.toInt ≤ x104.toInt ∨ x.toInt = 0 ∧ (n.toInt < x103.toInt ∨ x104.toInt < n.toInt))) (rt_isIn n x103 x104 (fun x q => ⟨x, rfl, q⟩)) (fun o ho => ?_)
  obtain ⟨x105, rfl, dx105⟩ := ho
  show cw_X _ _ _ _ _ [cv_i x105] h102
  refine ex_if0 oq_X12_known_14 (t := 19) rfl rfl (fun (c106 : ¬ x105.toInt = 0) => ?_) (fun (c106 : ¬ (¬ x105.toInt = 0)) => ?_)
  · refine ex_al oq_X12_known_19 rfl ?_
    refine ex_il oq_X12_known_20 rfl ?_
    refine ex_pfi oq_X12_known_21 Th102 (k := 111) (d := 12) rfl rfl rfl (by omega) (by omega) (fun h107 Th107 wh107 => ?_)
    have eh107_111_52 : ri_at h107 111 52 = c := (ri_ne wh107 (.inr (by decide))).trans eh102_111_52
    have eh107_111_2 : ri_at h107 111 2 = x101.toInt := (ri_ne wh107 (.inr (by decide))).trans eh102_111_2
    have eh107_111_53 : ri_at h107 111 53 = n.toInt := ri_self wh107
    refine ex_ic oq_X12_known_24 (m := 1) (by decide) (fun x108 hx108 => ?_)
    exact ex_retb oq_X12_known_25 rfl (by omega) (by omega) (hQ2 (by omega) x108 h107 Th107 (by omega) (fun k p => (wh107.2.2 k p).trans (wh102.2.2 k p)) (fun i p q => (wh107.2.1 111 i (.inr q)).trans (wh102.2.1 111 i (.inr p))) (ri_self wh107))
  · refine ex_ic oq_X12_known_17 (m := 0) (by decide) (fun x109 hx109 => ?_)
    exact ex_retb oq_X12_known_18 rfl (by omega) (by omega) (hQ1 x109 h102 Th102 (by omega) (by omega) ⟨_, wh102⟩)
end JN
