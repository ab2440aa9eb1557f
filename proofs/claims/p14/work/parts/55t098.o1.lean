/-! ===== a gate of the class begins, takes a work ===== -/
def gSC (γ : Nat → Int) (dk dv : List Int) (n S : Nat) : Nat → Int := zgU (zgU (zgU (zgU γ 11 (S : Int)) 12 (zMs dk dv S 0 n)) 13 (zMs dk dv S 1 n)) 14 (zMs dk dv S 2 n)
section GN
variable {G : Int} {X : cv_X} {Q : cv_O → Prop} {h : cv_H}
theorem cg_moreByJ {b R1 R2 : Nat} {h : cv_H} (hT : cw_T G h) (hb : cw_sh[b]? = some 4) (h1 : cw_sh[R1]? = some 41) (h2 : cw_sh[R2]? = some 42) (p1 : cw_at h b 17 = some (cv_r R1)) (p2 : cw_at h b 18 = some (cv_r R2)) {n : Nat} (hn : ri_at h b 19 = n) (hn6 : n ≤ 6) {dk dv : List Int} (d1 : ∀ c, c < n → ri_at h R1 c = dk.getD c 0) (d2 : ∀ c, c < n → ri_at h R2 c = dv.getD c 0) (hv : ∀ c, 0 ≤ dv.getD c 0 ∧ dv.getD c 0 ≤ 999) {s k : Int32} {S : Nat} (hS : s.toInt = S) (hS64 : S < 64) {κ : Int} (hk : k.toInt = κ) (hQ : ∀ x : Int32, x.toInt = zMs dk dv S κ n → Q (some (cv_i x), h)) : cw_X X 56 Q 0 (cv_ent 0 [cv_r b, cv_i s, cv_i k]) [] h := by
  subst hk
  exact cg_moreBy hT hb h1 h2 p1 p2 hn hn6 d1 d2 hv hS hS64 hQ
section SC
variable {b R1 R2 : Nat} {n : Nat} {dk dv : List Int}
theorem oq_X1_setCauses_0 : cw_ho 15 0 (.aload_n 0) 1 0 0 0 := rfl
theorem oq_X1_setCauses_1 : cw_ho 15 1 (.iload_n 2) 1 0 0 0 := rfl
theorem oq_X1_setCauses_2 : cw_ho 15 2 (.putfield 72) 3 1 11 0 := rfl
theorem oq_X1_setCauses_5 : cw_ho 15 5 (.aload_n 0) 1 0 0 0 := rfl
theorem oq_X1_setCauses_6 : cw_ho 15 6 (.aload_n 1) 1 0 0 0 := rfl
theorem oq_X1_setCauses_7 : cw_ho 15 7 (.iload_n 2) 1 0 0 0 := rfl
theorem oq_X1_setCauses_8 : cw_ho 15 8 (.iconst 0) 1 0 0 0 := rfl
theorem oq_X1_setCauses_9 : cw_ho 15 9 (.invokevirtual 73) 3 56 2 4 := rfl
theorem oq_X1_setCauses_12 : cw_ho 15 12 (.putfield 77) 3 1 12 0 := rfl
theorem oq_X1_setCauses_15 : cw_ho 15 15 (.aload_n 0) 1 0 0 0 := rfl
theorem oq_X1_setCauses_16 : cw_ho 15 16 (.aload_n 1) 1 0 0 0 := rfl
theorem oq_X1_setCauses_17 : cw_ho 15 17 (.iload_n 2) 1 0 0 0 := rfl
theorem oq_X1_setCauses_18 : cw_ho 15 18 (.iconst 1) 1 0 0 0 := rfl
theorem oq_X1_setCauses_19 : cw_ho 15 19 (.invokevirtual 73) 3 56 2 4 := rfl
theorem oq_X1_setCauses_22 : cw_ho 15 22 (.putfield 80) 3 1 13 0 := rfl
theorem oq_X1_setCauses_25 : cw_ho 15 25 (.aload_n 0) 1 0 0 0 := rfl
theorem oq_X1_setCauses_26 : cw_ho 15 26 (.aload_n 1) 1 0 0 0 := rfl
theorem oq_X1_setCauses_27 : cw_ho 15 27 (.iload_n 2) 1 0 0 0 := rfl
theorem oq_X1_setCauses_28 : cw_ho 15 28 (.iconst 2) 1 0 0 0 := rfl
theorem oq_X1_setCauses_29 : cw_ho 15 29 (.invokevirtual 73) 3 56 2 4 := rfl
theorem oq_X1_setCauses_32 : cw_ho 15 32 (.putfield 83) 3 1 14 0 := rfl
theorem oq_X1_setCauses_35 : cw_ho 15 35 (.return_) 1 0 0 0 := rfl
theorem cg_setCauses (hT : cw_T G h) {K U : Nat} (hK : cw_sh[K]? = some 1) (hU : cw_sh[U]? = some 7) (hp : cw_at h K 0 = some (cv_r U)) {γ : Nat → Int} (gv : zGV h K γ) (hb : cw_sh[b]? = some 4) (h1 : cw_sh[R1]? = some 41) (h2 : cw_sh[R2]? = some 42) (p1 : cw_at h b 17 = some (cv_r R1)) (p2 : cw_at h b 18 = some (cv_r R2)) (hn : ri_at h b 19 = n) (hn6 : n ≤ 6) (d1 : ∀ c, c < n → ri_at h R1 c = dk.getD c 0) (d2 : ∀ c, c < n → ri_at h R2 c = dv.getD c 0) (hv : ∀ c, 0 ≤ dv.getD c 0 ∧ dv.getD c 0 ≤ 999) {s : Int32} {S : Nat} (hS : s.toInt = S) (hS64 : S < 64) (hQ : ∀ h', cw_T G h' → cp_F K h h' → zGV h' K (gSC γ dk dv n S) → cw_at h' K 0 = some (cv_r U) → Q (none, h')) : cw_X X 15 Q 0 (cv_ent 0 [cv_r K, cv_r b, cv_i s]) [] h := by
  refine ex_al oq_X1_setCauses_0 rfl ?_
  refine ex_il oq_X1_setCauses_1 rfl ?_
  refine ex_pfi oq_X1_setCauses_2 hT (k := K) (d := 1) hK rfl rfl (cw_i32 _).1 (cw_i32 _).2 (fun h11 Th11 wh11 => ?_)
  have gvh11 : zGV h11 K (zgU (γ) 11 ((S : Int))) := zGV_w wh11 (show s.toInt = (S : Int) from hS) gv
  have hph11 : cw_at h11 K 0 = some (cv_r U) := (wh11.2.1 K 0 (.inr (by decide))).trans hp
  have cfh11 : cp_F K h h11 := cp_w wh11 cp_0
  refine ex_al oq_X1_setCauses_5 rfl ?_
  refine ex_al oq_X1_setCauses_6 rfl ?_
  refine ex_il oq_X1_setCauses_7 rfl ?_
  refine ex_ic oq_X1_setCauses_8 (m := 0) (by decide) (fun x12 hx12 => ?_)
  refine ex_cv oq_X1_setCauses_9 (by decide) Th11 (k := b) (d := 4) (as := [cv_i s, cv_i x12]) (stk := [cv_r K]) hb rfl rfl rfl rfl rfl ⟨rfl, rfl⟩ (R := fun o => ∃ x : Int32, o = (some (cv_i x), h11) ∧ x.toInt = zMs dk dv S 0 n) (cg_moreByJ Th11 hb h1 h2 ((cp_at cfh11 (cw_kne hb hK (by decide))).trans p1) ((cp_at cfh11 (cw_kne hb hK (by decide))).trans p2) ((ri_eq (cp_at cfh11 (cw_kne hb hK (by decide)))).trans hn) hn6 (fun c q => ((ri_eq (cp_at cfh11 (cw_kne h1 hK (by decide)))).trans (d1 c q))) (fun c q => ((ri_eq (cp_at cfh11 (cw_kne h2 hK (by decide)))).trans (d2 c q))) hv hS hS64 (κ := 0) (by omega) (fun x q => ⟨x, rfl, q⟩)) (fun o ho => ?_)
  obtain ⟨x13, rfl, hx13⟩ := ho
  show cw_X _ _ _ _ _ [cv_i x13, cv_r K] h11
  refine ex_pfi oq_X1_setCauses_12 Th11 (k := K) (d := 1) hK rfl rfl (cw_i32 _).1 (cw_i32 _).2 (fun h14 Th14 wh14 => ?_)
  have gvh14 : zGV h14 K (zgU (zgU (γ) 11 ((S : Int))) 12 (zMs dk dv S 0 n)) := zGV_w wh14 (show x13.toInt = zMs dk dv S 0 n from hx13) gvh11
  have hph14 : cw_at h14 K 0 = some (cv_r U) := (wh14.2.1 K 0 (.inr (by decide))).trans hph11
  have cfh14 : cp_F K h h14 := cp_w wh14 cfh11
  refine ex_al oq_X1_setCauses_15 rfl ?_
  refine ex_al oq_X1_setCauses_16 rfl ?_
  refine ex_il oq_X1_setCauses_17 rfl ?_
  refine ex_ic oq_X1_setCauses_18 (m := 1) (by decide) (fun x15 hx15 => ?_)
  refine ex_cv oq_X1_setCauses_19 (by decide) Th14 (k := b) (d := 4) (as := [cv_i s, cv_i x15]) (stk := [cv_r K]) hb rfl rfl rfl rfl rfl ⟨rfl, rfl⟩ (R := fun o => ∃ x : Int32, o = (some (cv_i x), h14) ∧ x.toInt = zMs dk dv S 1 n) (cg_moreByJ Th14 hb h1 h2 ((cp_at cfh14 (cw_kne hb hK (by decide))).trans p1) ((cp_at cfh14 (cw_kne hb hK (by decide))).trans p2) ((ri_eq (cp_at cfh14 (cw_kne hb hK (by decide)))).trans hn) hn6 (fun c q => ((ri_eq (cp_at cfh14 (cw_kne h1 hK (by decide)))).trans (d1 c q))) (fun c q => ((ri_eq (cp_at cfh14 (cw_kne h2 hK (by decide)))).trans (d2 c q))) hv hS hS64 (κ := 1) (by omega) (fun x q => ⟨x, rfl, q⟩)) (fun o ho => ?_)
  obtain ⟨x16, rfl, hx16⟩ := ho
  show cw_X _ _ _ _ _ [cv_i x16, cv_r K] h14
  refine ex_pfi oq_X1_setCauses_22 Th14 (k := K) (d := 1) hK rfl rfl (cw_i32 _).1 (cw_i32 _).2 (fun h17 Th17 wh17 => ?_)
  have gvh17 : zGV h17 K (zgU (zgU (zgU (γ) 11 ((S : Int))) 12 (zMs dk dv S 0 n)) 13 (zMs dk dv S 1 n)) := zGV_w wh17 (show x16.toInt = zMs dk dv S 1 n from hx16) gvh14
  have hph17 : cw_at h17 K 0 = some (cv_r U) := (wh17.2.1 K 0 (.inr (by decide))).trans hph14
  have cfh17 : cp_F K h h17 := cp_w wh17 cfh14
  refine ex_al oq_X1_setCauses_25 rfl ?_
  refine ex_al oq_X1_setCauses_26 rfl ?_
  refine ex_il oq_X1_setCauses_27 rfl ?_
  refine ex_ic oq_X1_setCauses_28 (m := 2) (by decide) (fun x18 hx18 => ?_)
  refine ex_cv oq_X1_setCauses_29 (by decide) Th17 (k := b) (d := 4) (as := [cv_i s, cv_i x18]) (stk := [cv_r K]) hb rfl rfl rfl rfl rfl ⟨rfl, rfl⟩ (R := fun o => ∃ x : Int32, o = (some (cv_i x), h17) ∧ x.toInt = zMs dk dv S 2 n) (cg_moreByJ Th17 hb h1 h2 ((cp_at cfh17 (cw_kne hb hK (by decide))).trans p1) ((cp_at cfh17 (cw_kne hb hK (by decide))).trans p2) ((ri_eq (cp_at cfh17 (cw_kne hb hK (by decide)))).trans hn) hn6 (fun c q => ((ri_eq (cp_at cfh17 (cw_kne h1 hK (by decide)))).trans (d1 c q))) (fun c q => ((ri_eq (cp_at cfh17 (cw_kne h2 hK (by decide)))).trans (d2 c q))) hv hS hS64 (κ := 2) (by omega) (fun x q => ⟨x, rfl, q⟩)) (fun o ho => ?_)
  obtain ⟨x19, rfl, hx19⟩ := ho
  show cw_X _ _ _ _ _ [cv_i x19, cv_r K] h17
  refine ex_pfi oq_X1_setCauses_32 Th17 (k := K) (d := 1) hK rfl rfl (cw_i32 _).1 (cw_i32 _).2 (fun h20 Th20 wh20 => ?_)
  have gvh20 : zGV h20 K (zgU (zgU (zgU (zgU (γ) 11 ((S : Int))) 12 (zMs dk dv S 0 n)) 13 (zMs dk dv S 1 n)) 14 (zMs dk dv S 2 n)) := zGV_w wh20 (show x19.toInt = zMs dk dv S 2 n from hx19) gvh17
  have hph20 : cw_at h20 K 0 = some (cv_r U) := (wh20.2.1 K 0 (.inr (by decide))).trans hph17
  have cfh20 : cp_F K h h20 := cp_w wh20 cfh17
  exact ex_retv oq_X1_setCauses_35 rfl (hQ h20 Th20 cfh20 gvh20 hph20)
theorem oq_X1_begin_0 : cw_ho 14 0 (.iload_n 2) 1 0 0 0 := rfl
theorem oq_X1_begin_1 : cw_ho 14 1 (.ifCond .lt 12) 3 0 0 0 := rfl
theorem oq_X1_begin_4 : cw_ho 14 4 (.iload_n 2) 1 0 0 0 := rfl
theorem oq_X1_begin_5 : cw_ho 14 5 (.aload_n 1) 1 0 0 0 := rfl
theorem oq_X1_begin_6 : cw_ho 14 6 (.getfield 15) 3 4 7 4 := rfl
theorem oq_X1_begin_9 : cw_ho 14 9 (.arraylength) 1 0 0 0 := rfl
theorem oq_X1_begin_10 : cw_ho 14 10 (.if_icmp .lt 4) 3 0 0 0 := rfl
theorem oq_X1_begin_14 : cw_ho 14 14 (.aload_n 0) 1 0 0 0 := rfl
theorem oq_X1_begin_15 : cw_ho 14 15 (.aload_n 1) 1 0 0 0 := rfl
theorem oq_X1_begin_16 : cw_ho 14 16 (.getfield 15) 3 4 7 4 := rfl
theorem oq_X1_begin_19 : cw_ho 14 19 (.iload_n 2) 1 0 0 0 := rfl
theorem oq_X1_begin_20 : cw_ho 14 20 (.aaload) 1 0 0 0 := rfl
theorem oq_X1_begin_21 : cw_ho 14 21 (.putfield 9) 3 1 0 4 := rfl
theorem oq_X1_begin_24 : cw_ho 14 24 (.aload_n 0) 1 0 0 0 := rfl
theorem oq_X1_begin_25 : cw_ho 14 25 (.iconst 0) 1 0 0 0 := rfl
theorem oq_X1_begin_26 : cw_ho 14 26 (.putfield 21) 3 1 1 0 := rfl
theorem oq_X1_begin_29 : cw_ho 14 29 (.aload_n 0) 1 0 0 0 := rfl
theorem oq_X1_begin_30 : cw_ho 14 30 (.iconst 0) 1 0 0 0 := rfl
theorem oq_X1_begin_31 : cw_ho 14 31 (.putfield 25) 3 1 2 0 := rfl
theorem oq_X1_begin_34 : cw_ho 14 34 (.aload_n 0) 1 0 0 0 := rfl
theorem oq_X1_begin_35 : cw_ho 14 35 (.iconst 0) 1 0 0 0 := rfl
theorem oq_X1_begin_36 : cw_ho 14 36 (.putfield 28) 3 1 3 0 := rfl
theorem oq_X1_begin_39 : cw_ho 14 39 (.aload_n 0) 1 0 0 0 := rfl
theorem oq_X1_begin_40 : cw_ho 14 40 (.iconst 0) 1 0 0 0 := rfl
theorem oq_X1_begin_41 : cw_ho 14 41 (.putfield 31) 3 1 4 0 := rfl
theorem oq_X1_begin_44 : cw_ho 14 44 (.aload_n 0) 1 0 0 0 := rfl
theorem oq_X1_begin_45 : cw_ho 14 45 (.aload_n 0) 1 0 0 0 := rfl
theorem oq_X1_begin_46 : cw_ho 14 46 (.getfield 9) 3 1 0 4 := rfl
theorem oq_X1_begin_49 : cw_ho 14 49 (.getfield 34) 3 7 7 0 := rfl
theorem oq_X1_begin_52 : cw_ho 14 52 (.putfield 39) 3 1 5 0 := rfl
theorem oq_X1_begin_55 : cw_ho 14 55 (.aload_n 0) 1 0 0 0 := rfl
theorem oq_X1_begin_56 : cw_ho 14 56 (.aload_n 0) 1 0 0 0 := rfl
theorem oq_X1_begin_57 : cw_ho 14 57 (.getfield 9) 3 1 0 4 := rfl
theorem oq_X1_begin_60 : cw_ho 14 60 (.getfield 40) 3 7 9 0 := rfl
theorem oq_X1_begin_63 : cw_ho 14 63 (.putfield 43) 3 1 6 0 := rfl
theorem oq_X1_begin_66 : cw_ho 14 66 (.aload_n 0) 1 0 0 0 := rfl
theorem oq_X1_begin_67 : cw_ho 14 67 (.iconst 0) 1 0 0 0 := rfl
theorem oq_X1_begin_68 : cw_ho 14 68 (.putfield 44) 3 1 7 0 := rfl
theorem oq_X1_begin_71 : cw_ho 14 71 (.aload_n 0) 1 0 0 0 := rfl
theorem oq_X1_begin_72 : cw_ho 14 72 (.iconst 0) 1 0 0 0 := rfl
theorem oq_X1_begin_73 : cw_ho 14 73 (.putfield 47) 3 1 8 0 := rfl
theorem oq_X1_begin_76 : cw_ho 14 76 (.aload_n 0) 1 0 0 0 := rfl
theorem oq_X1_begin_77 : cw_ho 14 77 (.aload_n 0) 1 0 0 0 := rfl
theorem oq_X1_begin_78 : cw_ho 14 78 (.getfield 9) 3 1 0 4 := rfl
theorem oq_X1_begin_81 : cw_ho 14 81 (.getfield 50) 3 7 12 0 := rfl
theorem oq_X1_begin_84 : cw_ho 14 84 (.putfield 53) 3 1 9 0 := rfl
theorem oq_X1_begin_87 : cw_ho 14 87 (.aload_n 0) 1 0 0 0 := rfl
theorem oq_X1_begin_88 : cw_ho 14 88 (.iconst 0) 1 0 0 0 := rfl
theorem oq_X1_begin_89 : cw_ho 14 89 (.putfield 54) 3 1 10 0 := rfl
theorem oq_X1_begin_92 : cw_ho 14 92 (.aload_n 0) 1 0 0 0 := rfl
theorem oq_X1_begin_93 : cw_ho 14 93 (.aload_n 0) 1 0 0 0 := rfl
theorem oq_X1_begin_94 : cw_ho 14 94 (.getfield 9) 3 1 0 4 := rfl
theorem oq_X1_begin_97 : cw_ho 14 97 (.getfield 57) 3 7 5 0 := rfl
theorem oq_X1_begin_100 : cw_ho 14 100 (.putfield 60) 3 1 15 0 := rfl
theorem oq_X1_begin_103 : cw_ho 14 103 (.aload_n 0) 1 0 0 0 := rfl
theorem oq_X1_begin_104 : cw_ho 14 104 (.aload_n 0) 1 0 0 0 := rfl
theorem oq_X1_begin_105 : cw_ho 14 105 (.getfield 9) 3 1 0 4 := rfl
theorem oq_X1_begin_108 : cw_ho 14 108 (.getfield 61) 3 7 6 0 := rfl
theorem oq_X1_begin_111 : cw_ho 14 111 (.putfield 64) 3 1 16 0 := rfl
theorem oq_X1_begin_114 : cw_ho 14 114 (.aload_n 0) 1 0 0 0 := rfl
theorem oq_X1_begin_115 : cw_ho 14 115 (.aload_n 1) 1 0 0 0 := rfl
theorem oq_X1_begin_116 : cw_ho 14 116 (.aload_n 0) 1 0 0 0 := rfl
theorem oq_X1_begin_117 : cw_ho 14 117 (.getfield 9) 3 1 0 4 := rfl
theorem oq_X1_begin_120 : cw_ho 14 120 (.getfield 65) 3 7 14 0 := rfl
theorem oq_X1_begin_123 : cw_ho 14 123 (.invokevirtual 68) 3 15 2 1 := rfl
theorem oq_X1_begin_126 : cw_ho 14 126 (.return_) 1 0 0 0 := rfl
theorem gBg_eq {γ T : Nat → Int} {S : Nat} (hS : T 14 = S) {j : Nat} (hj : 1 ≤ j ∧ j ≤ 16) : gSC (zgU (zgU (zgU (zgU (zgU (zgU (zgU (zgU (zgU (zgU (zgU (zgU (γ) 1 ((0 : Int))) 2 ((0 : Int))) 3 ((0 : Int))) 4 ((0 : Int))) 5 ((T 7 : Int))) 6 ((T 9 : Int))) 7 ((0 : Int))) 8 ((0 : Int))) 9 ((T 12 : Int))) 10 ((0 : Int))) 15 ((T 5 : Int))) 16 ((T 6 : Int))) dk dv n S j = (zgU (zgU (zgU (zgU (zgU (zgU (zgU (zgU (zgU (zgU (zgU (zgU (zgU (zgU (zgU (zgU (γ) 1 (gBegin T (zMs dk dv S 0 n) (zMs dk dv S 1 n) (zMs dk dv S 2 n) 1)) 2 (gBegin T (zMs dk dv S 0 n) (zMs dk dv S 1 n) (zMs dk dv S 2 n) 2)) 3 (gBegin T (zMs dk dv S 0 n) (zMs dk dv S 1 n) (zMs dk dv S 2 n) 3)) 4 (gBegin T (zMs dk dv S 0 n) (zMs dk dv S 1 n) (zMs dk dv S 2 n) 4)) 5 (gBegin T (zMs dk dv S 0 n) (zMs dk dv S 1 n) (zMs dk dv S 2 n) 5)) 6 (gBegin T (zMs dk dv S 0 n) (zMs dk dv S 1 n) (zMs dk dv S 2 n) 6)) 7 (gBegin T (zMs dk dv S 0 n) (zMs dk dv S 1 n) (zMs dk dv S 2 n) 7)) 8 (gBegin T (zMs dk dv S 0 n) (zMs dk dv S 1 n) (zMs dk dv S 2 n) 8)) 9 (gBegin T (zMs dk dv S 0 n) (zMs dk dv S 1 n) (zMs dk dv S 2 n) 9)) 10 (gBegin T (zMs dk dv S 0 n) (zMs dk dv S 1 n) (zMs dk dv S 2 n) 10)) 11 (gBegin T (zMs dk dv S 0 n) (zMs dk dv S 1 n) (zMs dk dv S 2 n) 11)) 12 (gBegin T (zMs dk dv S 0 n) (zMs dk dv S 1 n) (zMs dk dv S 2 n) 12)) 13 (gBegin T (zMs dk dv S 0 n) (zMs dk dv S 1 n) (zMs dk dv S 2 n) 13)) 14 (gBegin T (zMs dk dv S 0 n) (zMs dk dv S 1 n) (zMs dk dv S 2 n) 14)) 15 (gBegin T (zMs dk dv S 0 n) (zMs dk dv S 1 n) (zMs dk dv S 2 n) 15)) 16 (gBegin T (zMs dk dv S 0 n) (zMs dk dv S 1 n) (zMs dk dv S 2 n) 16)) j := by
  have : j = 1 ∨ j = 2 ∨ j = 3 ∨ j = 4 ∨ j = 5 ∨ j = 6 ∨ j = 7 ∨ j = 8 ∨ j = 9 ∨ j = 10 ∨ j = 11 ∨ j = 12 ∨ j = 13 ∨ j = 14 ∨ j = 15 ∨ j = 16 := by omega
  rcases this with rfl | rfl | rfl | rfl | rfl | rfl | rfl | rfl | rfl | rfl | rfl | rfl | rfl | rfl | rfl | rfl <;> first | rfl | exact hS.symm
theorem cg_begin (hT : cw_T G h) {K U RT : Nat} (hK : cw_sh[K]? = some 1) (hU : cw_sh[U]? = some 7) (hRT : cw_sh[RT]? = some 33) (pT : cw_at h b 7 = some (cv_r RT)) (hb : cw_sh[b]? = some 4) (h1 : cw_sh[R1]? = some 41) (h2 : cw_sh[R2]? = some 42) (p1 : cw_at h b 17 = some (cv_r R1)) (p2 : cw_at h b 18 = some (cv_r R2)) (hn : ri_at h b 19 = n) (hn6 : n ≤ 6) (d1 : ∀ c, c < n → ri_at h R1 c = dk.getD c 0) (d2 : ∀ c, c < n → ri_at h R2 c = dv.getD c 0) (hv : ∀ c, 0 ≤ dv.getD c 0 ∧ dv.getD c 0 ≤ 999) {g : Int32} {gi : Nat} (hg : g.toInt = gi) (hg4 : gi < 4) (qU : cw_at h RT gi = some (cv_r U)) {T : Nat → Int} (tT : zTV h U T) {S : Nat} (hS : T 14 = S) (hS64 : S < 64) (hQ : ∀ h', cw_T G h' → cp_F K h h' → zGV h' K (gBegin T (zMs dk dv S 0 n) (zMs dk dv S 1 n) (zMs dk dv S 2 n)) → cw_at h' K 0 = some (cv_r U) → Q (none, h')) : cw_X X 14 Q 0 (cv_ent 0 [cv_r K, cv_r b, cv_i g]) [] h := by
  obtain ⟨γ, gv⟩ : ∃ γ, zGV h K γ := ⟨fun j => ri_at h K j, fun _ _ => rfl⟩
  refine ex_il oq_X1_begin_0 rfl ?_
  refine ex_if0 oq_X1_begin_1 (t := 13) rfl rfl (fun (c11 : g.toInt < 0) => ?_) (fun (c11 : ¬ (g.toInt < 0)) => ?_)
  · exfalso; omega
  · refine ex_il oq_X1_begin_4 rfl ?_
    refine ex_al oq_X1_begin_5 rfl ?_
    refine ex_gf oq_X1_begin_6 hT (k := b) (d := 4) hb rfl (pT) ?_
    refine ex_lenr oq_X1_begin_9 hT (k := RT) (d := 33) hRT rfl (by decide) (fun x12 hx12 => ?_)
    refine ex_if oq_X1_begin_10 (t := 14) rfl rfl (fun (c13 : g.toInt < x12.toInt) => ?_) (fun (c13 : ¬ (g.toInt < x12.toInt)) => ?_)
    · refine ex_al oq_X1_begin_14 rfl ?_
      refine ex_al oq_X1_begin_15 rfl ?_
      refine ex_gf oq_X1_begin_16 hT (k := b) (d := 4) hb rfl (pT) ?_
      refine ex_il oq_X1_begin_19 rfl ?_
      refine ex_aa oq_X1_begin_20 hT (k := RT) (d := 33) (j := gi) hRT rfl (by omega) (by omega) (fun k15 ak15 sk15 => ?_)
      have ek15 : U = k15 := rk_inj (qU.symm.trans ak15)
      subst ek15
      refine ex_pfr oq_X1_begin_21 hT (k := K) (d := 1) (v := U) hK rfl rfl (by decide) hU rfl (fun h16 Th16 wh16 => ?_)
      have gvh16 : zGV h16 K (γ) := zGV_0 wh16 gv
      have hph16 := wh16.1
      have cfh16 : cp_F K h h16 := cp_w wh16 cp_0
      have tTh16 : zTV h16 U T := zTV_w wh16 (cw_kne hU hK (by decide)) tT
      refine ex_al oq_X1_begin_24 rfl ?_
      refine ex_ic oq_X1_begin_25 (m := 0) (by decide) (fun x17 hx17 => ?_)
      refine ex_pfi oq_X1_begin_26 Th16 (k := K) (d := 1) hK rfl rfl (cw_i32 _).1 (cw_i32 _).2 (fun h18 Th18 wh18 => ?_)
      have gvh18 : zGV h18 K (zgU (γ) 1 ((0 : Int))) := zGV_w wh18 (show x17.toInt = (0 : Int) from by omega) gvh16
      have hph18 : cw_at h18 K 0 = some (cv_r U) := (wh18.2.1 K 0 (.inr (by decide))).trans hph16
      have cfh18 : cp_F K h h18 := cp_w wh18 cfh16
      have tTh18 : zTV h18 U T := zTV_w wh18 (cw_kne hU hK (by decide)) tTh16
      refine ex_al oq_X1_begin_29 rfl ?_
      refine ex_ic oq_X1_begin_30 (m := 0) (by decide) (fun x19 hx19 => ?_)
      refine ex_pfi oq_X1_begin_31 Th18 (k := K) (d := 1) hK rfl rfl (cw_i32 _).1 (cw_i32 _).2 (fun h20 Th20 wh20 => ?_)
      have gvh20 : zGV h20 K (zgU (zgU (γ) 1 ((0 : Int))) 2 ((0 : Int))) := zGV_w wh20 (show x19.toInt = (0 : Int) from by omega) gvh18
      have hph20 : cw_at h20 K 0 = some (cv_r U) := (wh20.2.1 K 0 (.inr (by decide))).trans hph18
      have cfh20 : cp_F K h h20 := cp_w wh20 cfh18
      have tTh20 : zTV h20 U T := zTV_w wh20 (cw_kne hU hK (by decide)) tTh18
      refine ex_al oq_X1_begin_34 rfl ?_
      refine ex_ic oq_X1_begin_35 (m := 0) (by decide) (fun x21 hx21 => ?_)
      refine ex_pfi oq_X1_begin_36 Th20 (k := K) (d := 1) hK rfl rfl (cw_i32 _).1 (cw_i32 _).2 (fun h22 Th22 wh22 => ?_)
      have gvh22 : zGV h22 K (zgU (zgU (zgU (γ) 1 ((0 : Int))) 2 ((0 : Int))) 3 ((0 : Int))) := zGV_w wh22 (show x21.toInt = (0 : Int) from by omega) gvh20
      have hph22 : cw_at h22 K 0 = some (cv_r U) := (wh22.2.1 K 0 (.inr (by decide))).trans hph20
      have cfh22 : cp_F K h h22 := cp_w wh22 cfh20
      have tTh22 : zTV h22 U T := zTV_w wh22 (cw_kne hU hK (by decide)) tTh20
      refine ex_al oq_X1_begin_39 rfl ?_
      refine ex_ic oq_X1_begin_40 (m := 0) (by decide) (fun x23 hx23 => ?_)
      refine ex_pfi oq_X1_begin_41 Th22 (k := K) (d := 1) hK rfl rfl (cw_i32 _).1 (cw_i32 _).2 (fun h24 Th24 wh24 => ?_)
      have gvh24 : zGV h24 K (zgU (zgU (zgU (zgU (γ) 1 ((0 : Int))) 2 ((0 : Int))) 3 ((0 : Int))) 4 ((0 : Int))) := zGV_w wh24 (show x23.toInt = (0 : Int) from by omega) gvh22
      have hph24 : cw_at h24 K 0 = some (cv_r U) := (wh24.2.1 K 0 (.inr (by decide))).trans hph22
      have cfh24 : cp_F K h h24 := cp_w wh24 cfh22
      have tTh24 : zTV h24 U T := zTV_w wh24 (cw_kne hU hK (by decide)) tTh22
      refine ex_al oq_X1_begin_44 rfl ?_
      refine ex_al oq_X1_begin_45 rfl ?_
      refine ex_gf oq_X1_begin_46 Th24 (k := K) (d := 1) hK rfl (hph24) ?_
      obtain ⟨x25, ax25, rx25, lx25, ux25⟩ := ri_fld (k := U) (d := 7) (f := 7) Th24 hU rfl rfl
      try dsimp only at lx25 ux25
      refine ex_gf oq_X1_begin_49 Th24 (k := U) (d := 7) hU rfl ax25 ?_
      clear lx25 ux25
      have rx25 := (rx25.symm.trans (tTh24 7 (by decide)) : x25.toInt = T 7)
      refine ex_pfi oq_X1_begin_52 Th24 (k := K) (d := 1) hK rfl rfl (cw_i32 _).1 (cw_i32 _).2 (fun h26 Th26 wh26 => ?_)
      have gvh26 : zGV h26 K (zgU (zgU (zgU (zgU (zgU (γ) 1 ((0 : Int))) 2 ((0 : Int))) 3 ((0 : Int))) 4 ((0 : Int))) 5 ((T 7 : Int))) := zGV_w wh26 (show x25.toInt = (T 7 : Int) from by omega) gvh24
      have hph26 : cw_at h26 K 0 = some (cv_r U) := (wh26.2.1 K 0 (.inr (by decide))).trans hph24
      have cfh26 : cp_F K h h26 := cp_w wh26 cfh24
      have tTh26 : zTV h26 U T := zTV_w wh26 (cw_kne hU hK (by decide)) tTh24
      refine ex_al oq_X1_begin_55 rfl ?_
      refine ex_al oq_X1_begin_56 rfl ?_
      refine ex_gf oq_X1_begin_57 Th26 (k := K) (d := 1) hK rfl (hph26) ?_
      obtain ⟨x27, ax27, rx27, lx27, ux27⟩ := ri_fld (k := U) (d := 7) (f := 9) Th26 hU rfl rfl
      try dsimp only at lx27 ux27
      refine ex_gf oq_X1_begin_60 Th26 (k := U) (d := 7) hU rfl ax27 ?_
      clear lx27 ux27
      have rx27 := (rx27.symm.trans (tTh26 9 (by decide)) : x27.toInt = T 9)
      refine ex_pfi oq_X1_begin_63 Th26 (k := K) (d := 1) hK rfl rfl (cw_i32 _).1 (cw_i32 _).2 (fun h28 Th28 wh28 => ?_)
      have gvh28 : zGV h28 K (zgU (zgU (zgU (zgU (zgU (zgU (γ) 1 ((0 : Int))) 2 ((0 : Int))) 3 ((0 : Int))) 4 ((0 : Int))) 5 ((T 7 : Int))) 6 ((T 9 : Int))) := zGV_w wh28 (show x27.toInt = (T 9 : Int) from by omega) gvh26
      have hph28 : cw_at h28 K 0 = some (cv_r U) := (wh28.2.1 K 0 (.inr (by decide))).trans hph26
      have cfh28 : cp_F K h h28 := cp_w wh28 cfh26
      have tTh28 : zTV h28 U T := zTV_w wh28 (cw_kne hU hK (by decide)) tTh26
      refine ex_al oq_X1_begin_66 rfl ?_
      refine ex_ic oq_X1_begin_67 (m := 0) (by decide) (fun x29 hx29 => ?_)
      refine ex_pfi oq_X1_begin_68 Th28 (k := K) (d := 1) hK rfl rfl (cw_i32 _).1 (cw_i32 _).2 (fun h30 Th30 wh30 => ?_)
      have gvh30 : zGV h30 K (zgU (zgU (zgU (zgU (zgU (zgU (zgU (γ) 1 ((0 : Int))) 2 ((0 : Int))) 3 ((0 : Int))) 4 ((0 : Int))) 5 ((T 7 : Int))) 6 ((T 9 : Int))) 7 ((0 : Int))) := zGV_w wh30 (show x29.toInt = (0 : Int) from by omega) gvh28
      have hph30 : cw_at h30 K 0 = some (cv_r U) := (wh30.2.1 K 0 (.inr (by decide))).trans hph28
      have cfh30 : cp_F K h h30 := cp_w wh30 cfh28
      have tTh30 : zTV h30 U T := zTV_w wh30 (cw_kne hU hK (by decide)) tTh28
      refine ex_al oq_X1_begin_71 rfl ?_
      refine ex_ic oq_X1_begin_72 (m := 0) (by decide) (fun x31 hx31 => ?_)
      refine ex_pfi oq_X1_begin_73 Th30 (k := K) (d := 1) hK rfl rfl (cw_i32 _).1 (cw_i32 _).2 (fun h32 Th32 wh32 => ?_)
      have gvh32 : zGV h32 K (zgU (zgU (zgU (zgU (zgU (zgU (zgU (zgU (γ) 1 ((0 : Int))) 2 ((0 : Int))) 3 ((0 : Int))) 4 ((0 : Int))) 5 ((T 7 : Int))) 6 ((T 9 : Int))) 7 ((0 : Int))) 8 ((0 : Int))) := zGV_w wh32 (show x31.toInt = (0 : Int) from by omega) gvh30
      have hph32 : cw_at h32 K 0 = some (cv_r U) := (wh32.2.1 K 0 (.inr (by decide))).trans hph30
      have cfh32 : cp_F K h h32 := cp_w wh32 cfh30
      have tTh32 : zTV h32 U T := zTV_w wh32 (cw_kne hU hK (by decide)) tTh30
      refine ex_al oq_X1_begin_76 rfl ?_
      refine ex_al oq_X1_begin_77 rfl ?_
      refine ex_gf oq_X1_begin_78 Th32 (k := K) (d := 1) hK rfl (hph32) ?_
      obtain ⟨x33, ax33, rx33, lx33, ux33⟩ := ri_fld (k := U) (d := 7) (f := 12) Th32 hU rfl rfl
      try dsimp only at lx33 ux33
      refine ex_gf oq_X1_begin_81 Th32 (k := U) (d := 7) hU rfl ax33 ?_
      clear lx33 ux33
      have rx33 := (rx33.symm.trans (tTh32 12 (by decide)) : x33.toInt = T 12)
      refine ex_pfi oq_X1_begin_84 Th32 (k := K) (d := 1) hK rfl rfl (cw_i32 _).1 (cw_i32 _).2 (fun h34 Th34 wh34 => ?_)
      have gvh34 : zGV h34 K (zgU (zgU (zgU (zgU (zgU (zgU (zgU (zgU (zgU (γ) 1 ((0 : Int))) 2 ((0 : Int))) 3 ((0 : Int))) 4 ((0 : Int))) 5 ((T 7 : Int))) 6 ((T 9 : Int))) 7 ((0 : Int))) 8 ((0 : Int))) 9 ((T 12 : Int))) := zGV_w wh34 (show x33.toInt = (T 12 : Int) from by omega) gvh32
      have hph34 : cw_at h34 K 0 = some (cv_r U) := (wh34.2.1 K 0 (.inr (by decide))).trans hph32
      have cfh34 : cp_F K h h34 := cp_w wh34 cfh32
      have tTh34 : zTV h34 U T := zTV_w wh34 (cw_kne hU hK (by decide)) tTh32
      refine ex_al oq_X1_begin_87 rfl ?_
      refine ex_ic oq_X1_begin_88 (m := 0) (by decide) (fun x35 hx35 => ?_)
      refine ex_pfi oq_X1_begin_89 Th34 (k := K) (d := 1) hK rfl rfl (cw_i32 _).1 (cw_i32 _).2 (fun h36 Th36 wh36 => ?_)
      have gvh36 : zGV h36 K (zgU (zgU (zgU (zgU (zgU (zgU (zgU (zgU (zgU (zgU (γ) 1 ((0 : Int))) 2 ((0 : Int))) 3 ((0 : Int))) 4 ((0 : Int))) 5 ((T 7 : Int))) 6 ((T 9 : Int))) 7 ((0 : Int))) 8 ((0 : Int))) 9 ((T 12 : Int))) 10 ((0 : Int))) := zGV_w wh36 (show x35.toInt = (0 : Int) from by omega) gvh34
      have hph36 : cw_at h36 K 0 = some (cv_r U) := (wh36.2.1 K 0 (.inr (by decide))).trans hph34
      have cfh36 : cp_F K h h36 := cp_w wh36 cfh34
      have tTh36 : zTV h36 U T := zTV_w wh36 (cw_kne hU hK (by decide)) tTh34
      refine ex_al oq_X1_begin_92 rfl ?_
      refine ex_al oq_X1_begin_93 rfl ?_
      refine ex_gf oq_X1_begin_94 Th36 (k := K) (d := 1) hK rfl (hph36) ?_
      obtain ⟨x37, ax37, rx37, lx37, ux37⟩ := ri_fld (k := U) (d := 7) (f := 5) Th36 hU rfl rfl
      try dsimp only at lx37 ux37
      refine ex_gf oq_X1_begin_97 Th36 (k := U) (d := 7) hU rfl ax37 ?_
      clear lx37 ux37
      have rx37 := (rx37.symm.trans (tTh36 5 (by decide)) : x37.toInt = T 5)
      refine ex_pfi oq_X1_begin_100 Th36 (k := K) (d := 1) hK rfl rfl (cw_i32 _).1 (cw_i32 _).2 (fun h38 Th38 wh38 => ?_)
      have gvh38 : zGV h38 K (zgU (zgU (zgU (zgU (zgU (zgU (zgU (zgU (zgU (zgU (zgU (γ) 1 ((0 : Int))) 2 ((0 : Int))) 3 ((0 : Int))) 4 ((0 : Int))) 5 ((T 7 : Int))) 6 ((T 9 : Int))) 7 ((0 : Int))) 8 ((0 : Int))) 9 ((T 12 : Int))) 10 ((0 : Int))) 15 ((T 5 : Int))) := zGV_w wh38 (show x37.toInt = (T 5 : Int) from by omega) gvh36
      have hph38 : cw_at h38 K 0 = some (cv_r U) := (wh38.2.1 K 0 (.inr (by decide))).trans hph36
      have cfh38 : cp_F K h h38 := cp_w wh38 cfh36
      have tTh38 : zTV h38 U T := zTV_w wh38 (cw_kne hU hK (by decide)) tTh36
      refine ex_al oq_X1_begin_103 rfl ?_
      refine ex_al oq_X1_begin_104 rfl ?_
      refine ex_gf oq_X1_begin_105 Th38 (k := K) (d := 1) hK rfl (hph38) ?_
      obtain ⟨x39, ax39, rx39, lx39, ux39⟩ := ri_fld (k := U) (d := 7) (f := 6) Th38 hU rfl rfl
      try dsimp only at lx39 ux39
      refine ex_gf oq_X1_begin_108 Th38 (k := U) (d := 7) hU rfl ax39 ?_
      clear lx39 ux39
      have rx39 := (rx39.symm.trans (tTh38 6 (by decide)) : x39.toInt = T 6)
      refine ex_pfi oq_X1_begin_111 Th38 (k := K) (d := 1) hK rfl rfl (cw_i32 _).1 (cw_i32 _).2 (fun h40 Th40 wh40 => ?_)
      have gvh40 : zGV h40 K (zgU (zgU (zgU (zgU (zgU (zgU (zgU (zgU (zgU (zgU (zgU (zgU (γ) 1 ((0 : Int))) 2 ((0 : Int))) 3 ((0 : Int))) 4 ((0 : Int))) 5 ((T 7 : Int))) 6 ((T 9 : Int))) 7 ((0 : Int))) 8 ((0 : Int))) 9 ((T 12 : Int))) 10 ((0 : Int))) 15 ((T 5 : Int))) 16 ((T 6 : Int))) := zGV_w wh40 (show x39.toInt = (T 6 : Int) from by omega) gvh38
      have hph40 : cw_at h40 K 0 = some (cv_r U) := (wh40.2.1 K 0 (.inr (by decide))).trans hph38
      have cfh40 : cp_F K h h40 := cp_w wh40 cfh38
      have tTh40 : zTV h40 U T := zTV_w wh40 (cw_kne hU hK (by decide)) tTh38
      refine ex_al oq_X1_begin_114 rfl ?_
      refine ex_al oq_X1_begin_115 rfl ?_
      refine ex_al oq_X1_begin_116 rfl ?_
      refine ex_gf oq_X1_begin_117 Th40 (k := K) (d := 1) hK rfl (hph40) ?_
      obtain ⟨x41, ax41, rx41, lx41, ux41⟩ := ri_fld (k := U) (d := 7) (f := 14) Th40 hU rfl rfl
      try dsimp only at lx41 ux41
      refine ex_gf oq_X1_begin_120 Th40 (k := U) (d := 7) hU rfl ax41 ?_
      clear lx41 ux41
      have rx41 := (rx41.symm.trans (tTh40 14 (by decide)) : x41.toInt = T 14)
      refine ex_cv oq_X1_begin_123 (by decide) Th40 (k := K) (d := 1) (as := [cv_r b, cv_i x41]) (stk := []) hK rfl rfl rfl rfl rfl ⟨rfl, rfl⟩ (R := fun o => ∃ hb : cv_H, o = (none, hb) ∧ cw_T G hb ∧ cp_F K h40 hb ∧ zGV hb K (gSC (zgU (zgU (zgU (zgU (zgU (zgU (zgU (zgU (zgU (zgU (zgU (zgU (γ) 1 ((0 : Int))) 2 ((0 : Int))) 3 ((0 : Int))) 4 ((0 : Int))) 5 ((T 7 : Int))) 6 ((T 9 : Int))) 7 ((0 : Int))) 8 ((0 : Int))) 9 ((T 12 : Int))) 10 ((0 : Int))) 15 ((T 5 : Int))) 16 ((T 6 : Int))) dk dv n S) ∧ cw_at hb K 0 = some (cv_r U)) (cg_setCauses Th40 hK hU hph40 gvh40 hb h1 h2 ((cp_at cfh40 (cw_kne hb hK (by decide))).trans p1) ((cp_at cfh40 (cw_kne hb hK (by decide))).trans p2) ((ri_eq (cp_at cfh40 (cw_kne hb hK (by decide)))).trans hn) hn6 (fun c q => ((ri_eq (cp_at cfh40 (cw_kne h1 hK (by decide)))).trans (d1 c q))) (fun c q => ((ri_eq (cp_at cfh40 (cw_kne h2 hK (by decide)))).trans (d2 c q))) hv (S := S) (by omega) hS64 (fun hb b1 b2 b3 b4 => ⟨hb, rfl, b1, b2, b3, b4⟩)) (fun o ho => ?_)
      obtain ⟨h42, rfl, Th42, ch42, Vh42, ph42⟩ := ho
      show cw_X _ _ _ _ _ [] h42
      exact ex_retv oq_X1_begin_126 rfl (hQ h42 Th42 (fun k q => (ch42 k q).trans (cfh40 k q)) (zGV_c (γ := γ) (φ := gBegin T (zMs dk dv S 0 n) (zMs dk dv S 1 n) (zMs dk dv S 2 n)) (fun j q => (Vh42 j q).trans (gBg_eq hS q))) ph42)
    · exfalso; omega
theorem oq_X4_isWork_0 : cw_ho 50 0 (.iload_n 1) 1 0 0 0 := rfl
theorem oq_X4_isWork_1 : cw_ho 50 1 (.ifCond .lt 21) 3 0 0 0 := rfl
theorem oq_X4_isWork_4 : cw_ho 50 4 (.iload_n 1) 1 0 0 0 := rfl
theorem oq_X4_isWork_5 : cw_ho 50 5 (.aload_n 0) 1 0 0 0 := rfl
theorem oq_X4_isWork_6 : cw_ho 50 6 (.getfield 75) 3 4 14 0 := rfl
theorem oq_X4_isWork_9 : cw_ho 50 9 (.if_icmp .ge 13) 3 0 0 0 := rfl
theorem oq_X4_isWork_12 : cw_ho 50 12 (.iload_n 1) 1 0 0 0 := rfl
theorem oq_X4_isWork_13 : cw_ho 50 13 (.bipush 6) 2 0 0 0 := rfl
theorem oq_X4_isWork_15 : cw_ho 50 15 (.if_icmp .ge 7) 3 0 0 0 := rfl
theorem oq_X4_isWork_18 : cw_ho 50 18 (.iconst 1) 1 0 0 0 := rfl
theorem oq_X4_isWork_19 : cw_ho 50 19 (.goto 4) 3 0 0 0 := rfl
theorem oq_X4_isWork_22 : cw_ho 50 22 (.iconst 0) 1 0 0 0 := rfl
theorem oq_X4_isWork_23 : cw_ho 50 23 (.ireturn) 1 0 0 0 := rfl
theorem cg_isWork (hT : cw_T G h) (hb : cw_sh[b]? = some 4) {nw : Nat} (hw : ri_at h b 14 = nw) (hw6 : nw ≤ 6) (w : Int32) (hQ : ∀ x : Int32, (x.toInt = 1 ∧ (0 ≤ w.toInt ∧ w.toInt < (nw : Int)) ∨ x.toInt = 0 ∧ ¬ (0 ≤ w.toInt ∧ w.toInt < (nw : Int))) → Q (some (cv_i x), h)) : cw_X X 50 Q 0 (cv_ent 0 [cv_r b, cv_i w]) [] h := by
  refine ex_il oq_X4_isWork_0 rfl ?_
  refine ex_if0 oq_X4_isWork_1 (t := 22) rfl rfl (fun (c11 : w.toInt < 0) => ?_) (fun (c11 : ¬ (w.toInt < 0)) => ?_)
  · refine ex_ic oq_X4_isWork_22 (m := 0) (by decide) (fun x12 hx12 => ?_)
    exact ex_retb oq_X4_isWork_23 rfl (by omega) (by omega) (hQ x12 (by omega))
  · refine ex_il oq_X4_isWork_4 rfl ?_
    refine ex_al oq_X4_isWork_5 rfl ?_
    obtain ⟨x13, ax13, rx13, lx13, ux13⟩ := ri_fld (k := b) (d := 4) (f := 14) hT hb rfl rfl
    try dsimp only at lx13 ux13
    refine ex_gf oq_X4_isWork_6 hT (k := b) (d := 4) hb rfl ax13 ?_
    have rx13 := (rx13.symm.trans hw : x13.toInt = (nw : Int))
    refine ex_if oq_X4_isWork_9 (t := 22) rfl rfl (fun (c14 : x13.toInt ≤ w.toInt) => ?_) (fun (c14 : ¬ (x13.toInt ≤ w.toInt)) => ?_)
    · refine ex_ic oq_X4_isWork_22 (m := 0) (by decide) (fun x15 hx15 => ?_)
      exact ex_retb oq_X4_isWork_23 rfl (by omega) (by omega) (hQ x15 (by omega))
    · refine ex_il oq_X4_isWork_12 rfl ?_
      refine ex_bi oq_X4_isWork_13 (m := 6) (by decide) (fun x16 hx16 => ?_)
      refine ex_if oq_X4_isWork_15 (t := 22) rfl rfl (fun (c17 : x16.toInt ≤ w.toInt) => ?_) (fun (c17 : ¬ (x16.toInt ≤ w.toInt)) => ?_)
      · refine ex_ic oq_X4_isWork_22 (m := 0) (by decide) (fun x18 hx18 => ?_)
        exact ex_retb oq_X4_isWork_23 rfl (by omega) (by omega) (hQ x18 (by omega))
      · refine ex_ic oq_X4_isWork_18 (m := 1) (by decide) (fun x19 hx19 => ?_)
        refine ex_go oq_X4_isWork_19 (t := 23) rfl rfl ?_
        exact ex_retb oq_X4_isWork_23 rfl (by omega) (by omega) (hQ x19 (by omega))
theorem gTake_0 {γ : Nat → Int} {k n : Int} {w : Nat} (h : k = 0) : gTake γ k n w = zgU (zgU γ 10 (((γ 10).toNat ||| 2 ^ w : Nat) : Int)) 6 1 := by subst h; rfl
theorem gTake_1 {γ : Nat → Int} {k n : Int} {w : Nat} (h : k = 1) : gTake γ k n w = zgU (zgU γ 10 (((γ 10).toNat ||| 2 ^ w : Nat) : Int)) 2 0 := by subst h; rfl
theorem gTake_2 {γ : Nat → Int} {k n : Int} {w : Nat} (h : k = 2) : gTake γ k n w = zgU (zgU γ 10 (((γ 10).toNat ||| 2 ^ w : Nat) : Int)) 4 (γ 4 + n) := by subst h; rfl
theorem gTake_3 {γ : Nat → Int} {k n : Int} {w : Nat} (h : k = 3) : gTake γ k n w = zgU (zgU γ 10 (((γ 10).toNat ||| 2 ^ w : Nat) : Int)) 7 n := by subst h; rfl
theorem gTake_4 {γ : Nat → Int} {k n : Int} {w : Nat} (h : k = 4) : gTake γ k n w = zgU (zgU γ 10 (((γ 10).toNat ||| 2 ^ w : Nat) : Int)) 8 (γ 8 + n) := by subst h; rfl
theorem gTake_5 {γ : Nat → Int} {k n : Int} {w : Nat} (h : k = 5) : gTake γ k n w = zgU (zgU (zgU γ 10 (((γ 10).toNat ||| 2 ^ w : Nat) : Int)) 1 0) 5 (γ 5 + n) := by subst h; rfl
theorem gTake_6 {γ : Nat → Int} {k n : Int} {w : Nat} (h : k = 6) : gTake γ k n w = zgU (zgU (zgU γ 10 (((γ 10).toNat ||| 2 ^ w : Nat) : Int)) 3 0) 4 (γ 4 + n) := by subst h; rfl
theorem gTk_v {h : cv_H} {K : Nat} {a b : Nat → Int} (e : a = b) (g : zGV h K b) : zGV h K a := e ▸ g
theorem oq_X1_take_0 : cw_ho 23 0 (.aload_n 1) 1 0 0 0 := rfl
theorem oq_X1_take_1 : cw_ho 23 1 (.iload_n 2) 1 0 0 0 := rfl
theorem oq_X1_take_2 : cw_ho 23 2 (.invokevirtual 114) 3 50 1 4 := rfl
theorem oq_X1_take_5 : cw_ho 23 5 (.ifCond .ne 4) 3 0 0 0 := rfl
theorem oq_X1_take_9 : cw_ho 23 9 (.aload_n 1) 1 0 0 0 := rfl
theorem oq_X1_take_10 : cw_ho 23 10 (.getfield 118) 3 4 13 4 := rfl
theorem oq_X1_take_13 : cw_ho 23 13 (.iload_n 2) 1 0 0 0 := rfl
theorem oq_X1_take_14 : cw_ho 23 14 (.iaload) 1 0 0 0 := rfl
theorem oq_X1_take_15 : cw_ho 23 15 (.istore_n 3) 1 0 0 0 := rfl
theorem oq_X1_take_16 : cw_ho 23 16 (.aload_n 0) 1 0 0 0 := rfl
theorem oq_X1_take_17 : cw_ho 23 17 (.dup) 1 0 0 0 := rfl
theorem oq_X1_take_18 : cw_ho 23 18 (.getfield 54) 3 1 10 0 := rfl
theorem oq_X1_take_21 : cw_ho 23 21 (.iconst 1) 1 0 0 0 := rfl
theorem oq_X1_take_22 : cw_ho 23 22 (.iload_n 2) 1 0 0 0 := rfl
theorem oq_X1_take_23 : cw_ho 23 23 (.ishl) 1 0 0 0 := rfl
theorem oq_X1_take_24 : cw_ho 23 24 (.ior) 1 0 0 0 := rfl
theorem oq_X1_take_25 : cw_ho 23 25 (.putfield 54) 3 1 10 0 := rfl
theorem oq_X1_take_28 : cw_ho 23 28 (.aload_n 1) 1 0 0 0 := rfl
theorem oq_X1_take_29 : cw_ho 23 29 (.getfield 122) 3 4 12 4 := rfl
theorem oq_X1_take_32 : cw_ho 23 32 (.iload_n 2) 1 0 0 0 := rfl
theorem oq_X1_take_33 : cw_ho 23 33 (.iaload) 1 0 0 0 := rfl
theorem oq_X1_take_34 : cw_ho 23 34 (.tableswitch 106 0 5 #[38, 46, 54, 67, 75, 88]) 38 0 0 0 := rfl
theorem oq_X1_take_72 : cw_ho 23 72 (.aload_n 0) 1 0 0 0 := rfl
theorem oq_X1_take_73 : cw_ho 23 73 (.iconst 1) 1 0 0 0 := rfl
theorem oq_X1_take_74 : cw_ho 23 74 (.putfield 43) 3 1 6 0 := rfl
theorem oq_X1_take_77 : cw_ho 23 77 (.goto 78) 3 0 0 0 := rfl
theorem oq_X1_take_80 : cw_ho 23 80 (.aload_n 0) 1 0 0 0 := rfl
theorem oq_X1_take_81 : cw_ho 23 81 (.iconst 0) 1 0 0 0 := rfl
theorem oq_X1_take_82 : cw_ho 23 82 (.putfield 25) 3 1 2 0 := rfl
theorem oq_X1_take_85 : cw_ho 23 85 (.goto 70) 3 0 0 0 := rfl
theorem oq_X1_take_88 : cw_ho 23 88 (.aload_n 0) 1 0 0 0 := rfl
theorem oq_X1_take_89 : cw_ho 23 89 (.dup) 1 0 0 0 := rfl
theorem oq_X1_take_90 : cw_ho 23 90 (.getfield 31) 3 1 4 0 := rfl
theorem oq_X1_take_93 : cw_ho 23 93 (.iload_n 3) 1 0 0 0 := rfl
theorem oq_X1_take_94 : cw_ho 23 94 (.iadd) 1 0 0 0 := rfl
theorem oq_X1_take_95 : cw_ho 23 95 (.putfield 31) 3 1 4 0 := rfl
theorem oq_X1_take_98 : cw_ho 23 98 (.goto 57) 3 0 0 0 := rfl
theorem oq_X1_take_101 : cw_ho 23 101 (.aload_n 0) 1 0 0 0 := rfl
theorem oq_X1_take_102 : cw_ho 23 102 (.iload_n 3) 1 0 0 0 := rfl
theorem oq_X1_take_103 : cw_ho 23 103 (.putfield 44) 3 1 7 0 := rfl
theorem oq_X1_take_106 : cw_ho 23 106 (.goto 49) 3 0 0 0 := rfl
theorem oq_X1_take_109 : cw_ho 23 109 (.aload_n 0) 1 0 0 0 := rfl
theorem oq_X1_take_110 : cw_ho 23 110 (.dup) 1 0 0 0 := rfl
theorem oq_X1_take_111 : cw_ho 23 111 (.getfield 47) 3 1 8 0 := rfl
theorem oq_X1_take_114 : cw_ho 23 114 (.iload_n 3) 1 0 0 0 := rfl
theorem oq_X1_take_115 : cw_ho 23 115 (.iadd) 1 0 0 0 := rfl
theorem oq_X1_take_116 : cw_ho 23 116 (.putfield 47) 3 1 8 0 := rfl
theorem oq_X1_take_119 : cw_ho 23 119 (.goto 36) 3 0 0 0 := rfl
theorem oq_X1_take_122 : cw_ho 23 122 (.aload_n 0) 1 0 0 0 := rfl
theorem oq_X1_take_123 : cw_ho 23 123 (.iconst 0) 1 0 0 0 := rfl
theorem oq_X1_take_124 : cw_ho 23 124 (.putfield 21) 3 1 1 0 := rfl
theorem oq_X1_take_127 : cw_ho 23 127 (.aload_n 0) 1 0 0 0 := rfl
theorem oq_X1_take_128 : cw_ho 23 128 (.dup) 1 0 0 0 := rfl
theorem oq_X1_take_129 : cw_ho 23 129 (.getfield 39) 3 1 5 0 := rfl
theorem oq_X1_take_132 : cw_ho 23 132 (.iload_n 3) 1 0 0 0 := rfl
theorem oq_X1_take_133 : cw_ho 23 133 (.iadd) 1 0 0 0 := rfl
theorem oq_X1_take_134 : cw_ho 23 134 (.putfield 39) 3 1 5 0 := rfl
theorem oq_X1_take_137 : cw_ho 23 137 (.goto 18) 3 0 0 0 := rfl
theorem oq_X1_take_140 : cw_ho 23 140 (.aload_n 0) 1 0 0 0 := rfl
theorem oq_X1_take_141 : cw_ho 23 141 (.iconst 0) 1 0 0 0 := rfl
theorem oq_X1_take_142 : cw_ho 23 142 (.putfield 28) 3 1 3 0 := rfl
theorem oq_X1_take_145 : cw_ho 23 145 (.aload_n 0) 1 0 0 0 := rfl
theorem oq_X1_take_146 : cw_ho 23 146 (.dup) 1 0 0 0 := rfl
theorem oq_X1_take_147 : cw_ho 23 147 (.getfield 31) 3 1 4 0 := rfl
theorem oq_X1_take_150 : cw_ho 23 150 (.iload_n 3) 1 0 0 0 := rfl
theorem oq_X1_take_151 : cw_ho 23 151 (.iadd) 1 0 0 0 := rfl
theorem oq_X1_take_152 : cw_ho 23 152 (.putfield 31) 3 1 4 0 := rfl
theorem oq_X1_take_155 : cw_ho 23 155 (.return_) 1 0 0 0 := rfl
theorem cg_take (hT : cw_T G h) {K U RK RN : Nat} (hK : cw_sh[K]? = some 1) (hU : cw_sh[U]? = some 7) (hp : cw_at h K 0 = some (cv_r U)) {γ : Nat → Int} (gv : zGV h K γ) (r4 : -200000000 ≤ γ 4 ∧ γ 4 ≤ 200000000) (r5 : 0 ≤ γ 5 ∧ γ 5 ≤ 100000) (r8 : 0 ≤ γ 8 ∧ γ 8 ≤ 100000) (r10 : 0 ≤ γ 10 ∧ γ 10 < 64) (hb : cw_sh[b]? = some 4) (hRK : cw_sh[RK]? = some 37) (hRN : cw_sh[RN]? = some 38) (pK : cw_at h b 12 = some (cv_r RK)) (pN : cw_at h b 13 = some (cv_r RN)) {nw : Nat} (hnw : ri_at h b 14 = nw) (hw6 : nw ≤ 6) {w : Int32} {wn : Nat} (hwn : w.toInt = wn) (hwl : wn < nw) {kk nn : Int} (dK : ri_at h RK wn = kk) (dN : ri_at h RN wn = nn) (rk : 0 ≤ kk ∧ kk ≤ 6) (rn : 0 ≤ nn ∧ nn ≤ 9999) (hQ : ∀ h', cw_T G h' → cp_F K h h' → zGV h' K (gTake γ kk nn wn) → cw_at h' K 0 = some (cv_r U) → Q (none, h')) : cw_X X 23 Q 0 (cv_ent 0 [cv_r K, cv_r b, cv_i w]) [] h := by
  refine ex_al oq_X1_take_0 rfl ?_
  refine ex_il oq_X1_take_1 rfl ?_
  refine ex_cv oq_X1_take_2 (by decide) hT (k := b) (d := 4) (as := [cv_i w]) (stk := []) hb rfl rfl rfl rfl rfl ⟨rfl, rfl⟩ (R := fun o => ∃ x : Int32, o = (some (cv_i x), h) ∧ (x.toInt = 1 ∧ (0 ≤ w.toInt ∧ w.toInt < (nw : Int)) ∨ x.toInt = 0 ∧ ¬ (0 ≤ w.toInt ∧ w.toInt < (nw : Int)))) (cg_isWork hT hb hnw hw6 w (fun x q => ⟨x, rfl, q⟩)) (fun o ho => ?_)
  obtain ⟨x11, rfl, dx11⟩ := ho
  show cw_X _ _ _ _ _ [cv_i x11] h
  refine ex_if0 oq_X1_take_5 (t := 9) rfl rfl (fun (c12 : ¬ x11.toInt = 0) => ?_) (fun (c12 : ¬ (¬ x11.toInt = 0)) => ?_)
  · refine ex_al oq_X1_take_9 rfl ?_
    refine ex_gf oq_X1_take_10 hT (k := b) (d := 4) hb rfl (pN) ?_
    refine ex_il oq_X1_take_13 rfl ?_
    refine ex_ia1 oq_X1_take_14 hT (k := RN) (d := 38) (j := wn) hRN rfl (by omega) (by omega) (fun x13 hx13 lx13 ux13 => ?_)
    have hx13 : x13.toInt = nn := hx13.symm.trans (dN)
    refine ex_isA oq_X1_take_15 (fun L14 gL14_3 kL14 => ?_)
    have gL14_0 : cv_get L14 0 = some (cv_r K) := kL14 0 _ (by decide) (fun q => absurd q (by decide)) rfl
    have gL14_1 : cv_get L14 1 = some (cv_r b) := kL14 1 _ (by decide) (fun q => absurd q (by decide)) rfl
    have gL14_2 : cv_get L14 2 = some (cv_i w) := kL14 2 _ (by decide) (fun _ => rfl) rfl
    refine ex_al oq_X1_take_16 gL14_0 ?_
    refine ex_dup oq_X1_take_17 rfl ?_
    obtain ⟨x15, ax15, rx15, lx15, ux15⟩ := ri_fld (k := K) (d := 1) (f := 10) hT hK rfl rfl
    try dsimp only at lx15 ux15
    refine ex_gf oq_X1_take_18 hT (k := K) (d := 1) hK rfl ax15 ?_
    clear lx15 ux15
    have rx15 := (rx15.symm.trans (gv 10 (by decide)) : x15.toInt = γ 10)
    refine ex_ic oq_X1_take_21 (m := 1) (by decide) (fun x16 hx16 => ?_)
    refine ex_il oq_X1_take_22 gL14_2 ?_
    refine ex_shlE oq_X1_take_23 (fun x17 hx17 => ?_)
    refine ex_orE oq_X1_take_24 (fun x18 hx18 => ?_)
    refine ex_pfi oq_X1_take_25 hT (k := K) (d := 1) hK rfl rfl (cw_i32 _).1 (cw_i32 _).2 (fun h19 Th19 wh19 => ?_)
    have gvh19 : zGV h19 K (zgU (γ) 10 ((((γ 10).toNat ||| 2 ^ wn : Nat) : Int))) := zGV_w wh19 (show x18.toInt = (((γ 10).toNat ||| 2 ^ wn : Nat) : Int) from (by rw [hx18, hx17]; exact bt_or (m := (γ 10).toNat) (by omega) (by omega) hwn (by omega) hx16)) gv
    have hph19 : cw_at h19 K 0 = some (cv_r U) := (wh19.2.1 K 0 (.inr (by decide))).trans hp
    have cfh19 : cp_F K h h19 := cp_w wh19 cp_0
    refine ex_al oq_X1_take_28 gL14_1 ?_
    refine ex_gf oq_X1_take_29 Th19 (k := b) (d := 4) hb rfl (((cp_at cfh19 (cw_kne hb hK (by decide))).trans pK)) ?_
    refine ex_il oq_X1_take_32 gL14_2 ?_
    refine ex_ia1 oq_X1_take_33 Th19 (k := RK) (d := 37) (j := wn) hRK rfl (by omega) (by omega) (fun x20 hx20 lx20 ux20 => ?_)
    have hx20 : x20.toInt = kk := hx20.symm.trans ((ri_eq (cp_at cfh19 (cw_kne hRK hK (by decide)))).trans dK)
    refine ex_tsw oq_X1_take_34 rfl (fun c21 => ⟨rfl, ?_⟩) (fun i hi c21 => ?_)
    · show cw_X _ _ _ 140 _ _ _
      have hk6 : kk = 6 := by omega
      refine ex_al oq_X1_take_140 gL14_0 ?_
      refine ex_ic oq_X1_take_141 (m := 0) (by decide) (fun x22 hx22 => ?_)
      refine ex_pfi oq_X1_take_142 Th19 (k := K) (d := 1) hK rfl rfl (cw_i32 _).1 (cw_i32 _).2 (fun h23 Th23 wh23 => ?_)
      have gvh23 : zGV h23 K (zgU (zgU (γ) 10 ((((γ 10).toNat ||| 2 ^ wn : Nat) : Int))) 3 ((0 : Int))) := zGV_w wh23 (show x22.toInt = (0 : Int) from by omega) gvh19
      have hph23 : cw_at h23 K 0 = some (cv_r U) := (wh23.2.1 K 0 (.inr (by decide))).trans hph19
      have cfh23 : cp_F K h h23 := cp_w wh23 cfh19
      refine ex_al oq_X1_take_145 gL14_0 ?_
      refine ex_dup oq_X1_take_146 rfl ?_
      obtain ⟨x24, ax24, rx24, lx24, ux24⟩ := ri_fld (k := K) (d := 1) (f := 4) Th23 hK rfl rfl
      try dsimp only at lx24 ux24
      refine ex_gf oq_X1_take_147 Th23 (k := K) (d := 1) hK rfl ax24 ?_
      clear lx24 ux24
      have rx24 := (rx24.symm.trans (gvh23 4 (by decide)) : x24.toInt = γ 4)
      refine ex_il oq_X1_take_150 gL14_3 ?_
      refine ex_add oq_X1_take_151 (by omega) (fun x25 hx25 => ?_)
      refine ex_pfi oq_X1_take_152 Th23 (k := K) (d := 1) hK rfl rfl (cw_i32 _).1 (cw_i32 _).2 (fun h26 Th26 wh26 => ?_)
      have gvh26 : zGV h26 K (zgU (zgU (zgU (γ) 10 ((((γ 10).toNat ||| 2 ^ wn : Nat) : Int))) 3 ((0 : Int))) 4 (γ 4 + nn)) := zGV_w wh26 (show x25.toInt = γ 4 + nn from by omega) gvh23
      have hph26 : cw_at h26 K 0 = some (cv_r U) := (wh26.2.1 K 0 (.inr (by decide))).trans hph23
      have cfh26 : cp_F K h h26 := cp_w wh26 cfh23
      exact ex_retv oq_X1_take_155 rfl (hQ h26 Th26 cfh26 (gTk_v (gTake_6 (by omega)) gvh26) hph26)
    · match i, hi, c21 with
      | 0, _, c21 =>
        refine ⟨rfl, ?_⟩
        show cw_X _ _ _ 72 _ _ _
        have hkk : kk = 0 := by omega
        refine ex_al oq_X1_take_72 gL14_0 ?_
        refine ex_ic oq_X1_take_73 (m := 1) (by decide) (fun x27 hx27 => ?_)
        refine ex_pfi oq_X1_take_74 Th19 (k := K) (d := 1) hK rfl rfl (cw_i32 _).1 (cw_i32 _).2 (fun h28 Th28 wh28 => ?_)
        have gvh28 : zGV h28 K (zgU (zgU (γ) 10 ((((γ 10).toNat ||| 2 ^ wn : Nat) : Int))) 6 ((1 : Int))) := zGV_w wh28 (show x27.toInt = (1 : Int) from by omega) gvh19
        have hph28 : cw_at h28 K 0 = some (cv_r U) := (wh28.2.1 K 0 (.inr (by decide))).trans hph19
        have cfh28 : cp_F K h h28 := cp_w wh28 cfh19
        refine ex_go oq_X1_take_77 (t := 155) rfl rfl ?_
        exact ex_retv oq_X1_take_155 rfl (hQ h28 Th28 cfh28 (gTk_v (gTake_0 hkk) gvh28) hph28)
      | 1, _, c21 =>
        refine ⟨rfl, ?_⟩
        show cw_X _ _ _ 80 _ _ _
        have hkk : kk = 1 := by omega
        refine ex_al oq_X1_take_80 gL14_0 ?_
        refine ex_ic oq_X1_take_81 (m := 0) (by decide) (fun x29 hx29 => ?_)
        refine ex_pfi oq_X1_take_82 Th19 (k := K) (d := 1) hK rfl rfl (cw_i32 _).1 (cw_i32 _).2 (fun h30 Th30 wh30 => ?_)
        have gvh30 : zGV h30 K (zgU (zgU (γ) 10 ((((γ 10).toNat ||| 2 ^ wn : Nat) : Int))) 2 ((0 : Int))) := zGV_w wh30 (show x29.toInt = (0 : Int) from by omega) gvh19
        have hph30 : cw_at h30 K 0 = some (cv_r U) := (wh30.2.1 K 0 (.inr (by decide))).trans hph19
        have cfh30 : cp_F K h h30 := cp_w wh30 cfh19
        refine ex_go oq_X1_take_85 (t := 155) rfl rfl ?_
        exact ex_retv oq_X1_take_155 rfl (hQ h30 Th30 cfh30 (gTk_v (gTake_1 hkk) gvh30) hph30)
      | 2, _, c21 =>
        refine ⟨rfl, ?_⟩
        show cw_X _ _ _ 88 _ _ _
        have hkk : kk = 2 := by omega
        refine ex_al oq_X1_take_88 gL14_0 ?_
        refine ex_dup oq_X1_take_89 rfl ?_
        obtain ⟨x31, ax31, rx31, lx31, ux31⟩ := ri_fld (k := K) (d := 1) (f := 4) Th19 hK rfl rfl
        try dsimp only at lx31 ux31
        refine ex_gf oq_X1_take_90 Th19 (k := K) (d := 1) hK rfl ax31 ?_
        clear lx31 ux31
        have rx31 := (rx31.symm.trans (gvh19 4 (by decide)) : x31.toInt = γ 4)
        refine ex_il oq_X1_take_93 gL14_3 ?_
        refine ex_add oq_X1_take_94 (by omega) (fun x32 hx32 => ?_)
        refine ex_pfi oq_X1_take_95 Th19 (k := K) (d := 1) hK rfl rfl (cw_i32 _).1 (cw_i32 _).2 (fun h33 Th33 wh33 => ?_)
        have gvh33 : zGV h33 K (zgU (zgU (γ) 10 ((((γ 10).toNat ||| 2 ^ wn : Nat) : Int))) 4 (γ 4 + nn)) := zGV_w wh33 (show x32.toInt = γ 4 + nn from by omega) gvh19
        have hph33 : cw_at h33 K 0 = some (cv_r U) := (wh33.2.1 K 0 (.inr (by decide))).trans hph19
        have cfh33 : cp_F K h h33 := cp_w wh33 cfh19
        refine ex_go oq_X1_take_98 (t := 155) rfl rfl ?_
        exact ex_retv oq_X1_take_155 rfl (hQ h33 Th33 cfh33 (gTk_v (gTake_2 hkk) gvh33) hph33)
      | 3, _, c21 =>
        refine ⟨rfl, ?_⟩
        show cw_X _ _ _ 101 _ _ _
        have hkk : kk = 3 := by omega
        refine ex_al oq_X1_take_101 gL14_0 ?_
        refine ex_il oq_X1_take_102 gL14_3 ?_
        refine ex_pfi oq_X1_take_103 Th19 (k := K) (d := 1) hK rfl rfl (cw_i32 _).1 (cw_i32 _).2 (fun h34 Th34 wh34 => ?_)
        have gvh34 : zGV h34 K (zgU (zgU (γ) 10 ((((γ 10).toNat ||| 2 ^ wn : Nat) : Int))) 7 (nn)) := zGV_w wh34 (show x13.toInt = nn from by omega) gvh19
        have hph34 : cw_at h34 K 0 = some (cv_r U) := (wh34.2.1 K 0 (.inr (by decide))).trans hph19
        have cfh34 : cp_F K h h34 := cp_w wh34 cfh19
        refine ex_go oq_X1_take_106 (t := 155) rfl rfl ?_
        exact ex_retv oq_X1_take_155 rfl (hQ h34 Th34 cfh34 (gTk_v (gTake_3 hkk) gvh34) hph34)
      | 4, _, c21 =>
        refine ⟨rfl, ?_⟩
        show cw_X _ _ _ 109 _ _ _
        have hkk : kk = 4 := by omega
        refine ex_al oq_X1_take_109 gL14_0 ?_
        refine ex_dup oq_X1_take_110 rfl ?_
        obtain ⟨x35, ax35, rx35, lx35, ux35⟩ := ri_fld (k := K) (d := 1) (f := 8) Th19 hK rfl rfl
        try dsimp only at lx35 ux35
        refine ex_gf oq_X1_take_111 Th19 (k := K) (d := 1) hK rfl ax35 ?_
        clear lx35 ux35
        have rx35 := (rx35.symm.trans (gvh19 8 (by decide)) : x35.toInt = γ 8)
        refine ex_il oq_X1_take_114 gL14_3 ?_
        refine ex_add oq_X1_take_115 (by omega) (fun x36 hx36 => ?_)
        refine ex_pfi oq_X1_take_116 Th19 (k := K) (d := 1) hK rfl rfl (cw_i32 _).1 (cw_i32 _).2 (fun h37 Th37 wh37 => ?_)
        have gvh37 : zGV h37 K (zgU (zgU (γ) 10 ((((γ 10).toNat ||| 2 ^ wn : Nat) : Int))) 8 (γ 8 + nn)) := zGV_w wh37 (show x36.toInt = γ 8 + nn from by omega) gvh19
        have hph37 : cw_at h37 K 0 = some (cv_r U) := (wh37.2.1 K 0 (.inr (by decide))).trans hph19
        have cfh37 : cp_F K h h37 := cp_w wh37 cfh19
        refine ex_go oq_X1_take_119 (t := 155) rfl rfl ?_
        exact ex_retv oq_X1_take_155 rfl (hQ h37 Th37 cfh37 (gTk_v (gTake_4 hkk) gvh37) hph37)
      | 5, _, c21 =>
        refine ⟨rfl, ?_⟩
        show cw_X _ _ _ 122 _ _ _
        have hkk : kk = 5 := by omega
        refine ex_al oq_X1_take_122 gL14_0 ?_
        refine ex_ic oq_X1_take_123 (m := 0) (by decide) (fun x38 hx38 => ?_)
        refine ex_pfi oq_X1_take_124 Th19 (k := K) (d := 1) hK rfl rfl (cw_i32 _).1 (cw_i32 _).2 (fun h39 Th39 wh39 => ?_)
        have gvh39 : zGV h39 K (zgU (zgU (γ) 10 ((((γ 10).toNat ||| 2 ^ wn : Nat) : Int))) 1 ((0 : Int))) := zGV_w wh39 (show x38.toInt = (0 : Int) from by omega) gvh19
        have hph39 : cw_at h39 K 0 = some (cv_r U) := (wh39.2.1 K 0 (.inr (by decide))).trans hph19
        have cfh39 : cp_F K h h39 := cp_w wh39 cfh19
        refine ex_al oq_X1_take_127 gL14_0 ?_
        refine ex_dup oq_X1_take_128 rfl ?_
        obtain ⟨x40, ax40, rx40, lx40, ux40⟩ := ri_fld (k := K) (d := 1) (f := 5) Th39 hK rfl rfl
        try dsimp only at lx40 ux40
        refine ex_gf oq_X1_take_129 Th39 (k := K) (d := 1) hK rfl ax40 ?_
        clear lx40 ux40
        have rx40 := (rx40.symm.trans (gvh39 5 (by decide)) : x40.toInt = γ 5)
        refine ex_il oq_X1_take_132 gL14_3 ?_
        refine ex_add oq_X1_take_133 (by omega) (fun x41 hx41 => ?_)
        refine ex_pfi oq_X1_take_134 Th39 (k := K) (d := 1) hK rfl rfl (cw_i32 _).1 (cw_i32 _).2 (fun h42 Th42 wh42 => ?_)
        have gvh42 : zGV h42 K (zgU (zgU (zgU (γ) 10 ((((γ 10).toNat ||| 2 ^ wn : Nat) : Int))) 1 ((0 : Int))) 5 (γ 5 + nn)) := zGV_w wh42 (show x41.toInt = γ 5 + nn from by omega) gvh39
        have hph42 : cw_at h42 K 0 = some (cv_r U) := (wh42.2.1 K 0 (.inr (by decide))).trans hph39
        have cfh42 : cp_F K h h42 := cp_w wh42 cfh39
        refine ex_go oq_X1_take_137 (t := 155) rfl rfl ?_
        exact ex_retv oq_X1_take_155 rfl (hQ h42 Th42 cfh42 (gTk_v (gTake_5 hkk) gvh42) hph42)
      | i + 6, hi, _ => exact absurd hi (by show ¬ i + 6 < 6; omega)
  · exfalso; omega
end SC
end GN
