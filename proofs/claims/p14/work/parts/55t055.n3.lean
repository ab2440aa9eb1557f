/-! ===== a gate of the class changes ===== -/
theorem zGV_w {h h' : cv_H} {K f : Nat} {x : Int32} {γ : Nat → Int} {v : Int} (w : cw_Wr h h' K f (cv_i x)) (e : x.toInt = v) (g : zGV h K γ) : zGV h' K (zgU γ f v) := by
  intro j hj
  by_cases c : j = f
  · rw [c, zgU_eq, ri_self w, e]
  · rw [zgU_ne c, ri_ne w (.inr c)]; exact g j hj
theorem zGV_0 {h h' : cv_H} {K : Nat} {v : cv_V} {γ : Nat → Int} (w : cw_Wr h h' K 0 v) (g : zGV h K γ) : zGV h' K γ := fun j hj => (ri_ne w (.inr (by omega))).trans (g j hj)
theorem zTV_w {h h' : cv_H} {K U f : Nat} {v : cv_V} {T : Nat → Int} (w : cw_Wr h h' K f v) (n : U ≠ K) (g : zTV h U T) : zTV h' U T := fun j hj => (ri_ne w (.inl n)).trans (g j hj)
theorem cp_0 {K : Nat} {h : cv_H} : cp_F K h h := fun _ _ => rfl
theorem cp_w {h0 h h' : cv_H} {K f : Nat} {v : cv_V} (w : cw_Wr h h' K f v) (a : cp_F K h0 h) : cp_F K h0 h' := fun k hk => (w.2.2 k hk).trans (a k hk)
theorem cp_at {R k i : Nat} {h h' : cv_H} (hF : cp_F R h h') (hk : k ≠ R) : cw_at h' k i = cw_at h k i := by unfold cw_at; rw [hF k hk]
def gGrow (γ : Nat → Int) (a b c : Int) : Nat → Int := zgU (zgU (zgU γ 1 (min 1000000 (γ 1 + a + γ 12))) 2 (min 1000000 (γ 2 + b + γ 13))) 3 (min 1000000 (γ 3 + c + γ 14))
def gBegin (T : Nat → Int) (m0 m1 m2 : Int) : Nat → Int := fun j => ([0, 0, 0, 0, 0, T 7, T 9, 0, 0, T 12, 0, T 14, m0, m1, m2, T 5, T 6] : List Int).getD j 0
def gTake (γ : Nat → Int) (k n : Int) (w : Nat) : Nat → Int :=
  if k = 0 then zgU (zgU γ 10 (((γ 10).toNat ||| 2 ^ w : Nat) : Int)) 6 1 else
  if k = 1 then zgU (zgU γ 10 (((γ 10).toNat ||| 2 ^ w : Nat) : Int)) 2 0 else
  if k = 2 then zgU (zgU γ 10 (((γ 10).toNat ||| 2 ^ w : Nat) : Int)) 4 (γ 4 + n) else
  if k = 3 then zgU (zgU γ 10 (((γ 10).toNat ||| 2 ^ w : Nat) : Int)) 7 n else
  if k = 4 then zgU (zgU γ 10 (((γ 10).toNat ||| 2 ^ w : Nat) : Int)) 8 (γ 8 + n) else
  if k = 5 then zgU (zgU (zgU γ 10 (((γ 10).toNat ||| 2 ^ w : Nat) : Int)) 1 0) 5 (γ 5 + n) else
  zgU (zgU (zgU γ 10 (((γ 10).toNat ||| 2 ^ w : Nat) : Int)) 3 0) 4 (γ 4 + n)
/-- what causes add: of those in a set, of a kind -/
def zMs (dk dv : List Int) (S : Nat) (kind : Int) : Nat → Int
  | 0 => 0
  | c + 1 => zMs dk dv S kind c + (if S.testBit c = true ∧ dk.getD c 0 = kind then dv.getD c 0 else 0)
theorem zMs_b {dk dv : List Int} {S : Nat} {kind : Int} (h : ∀ c, 0 ≤ dv.getD c 0 ∧ dv.getD c 0 ≤ 999) : ∀ n : Nat, 0 ≤ zMs dk dv S kind n ∧ zMs dk dv S kind n ≤ 999 * n
  | 0 => ⟨Int.le_refl _, Int.le_refl _⟩
  | n + 1 => by
    have a := zMs_b (dk := dk) (S := S) (kind := kind) h n
    have b := h n
    unfold zMs
    split <;> omega
section GN
variable {G : Int} {X : cv_X} {Q : cv_O → Prop} {h : cv_H}
theorem oq_X1_copy_0 : cw_ho 16 0 (.aload_n 0) 1 0 0 0 := rfl
theorem oq_X1_copy_1 : cw_ho 16 1 (.aload_n 1) 1 0 0 0 := rfl
theorem oq_X1_copy_2 : cw_ho 16 2 (.getfield 9) 3 1 0 4 := rfl
theorem oq_X1_copy_5 : cw_ho 16 5 (.putfield 9) 3 1 0 4 := rfl
theorem oq_X1_copy_8 : cw_ho 16 8 (.aload_n 0) 1 0 0 0 := rfl
theorem oq_X1_copy_9 : cw_ho 16 9 (.aload_n 1) 1 0 0 0 := rfl
theorem oq_X1_copy_10 : cw_ho 16 10 (.getfield 21) 3 1 1 0 := rfl
theorem oq_X1_copy_13 : cw_ho 16 13 (.putfield 21) 3 1 1 0 := rfl
theorem oq_X1_copy_16 : cw_ho 16 16 (.aload_n 0) 1 0 0 0 := rfl
theorem oq_X1_copy_17 : cw_ho 16 17 (.aload_n 1) 1 0 0 0 := rfl
theorem oq_X1_copy_18 : cw_ho 16 18 (.getfield 25) 3 1 2 0 := rfl
theorem oq_X1_copy_21 : cw_ho 16 21 (.putfield 25) 3 1 2 0 := rfl
theorem oq_X1_copy_24 : cw_ho 16 24 (.aload_n 0) 1 0 0 0 := rfl
theorem oq_X1_copy_25 : cw_ho 16 25 (.aload_n 1) 1 0 0 0 := rfl
theorem oq_X1_copy_26 : cw_ho 16 26 (.getfield 28) 3 1 3 0 := rfl
theorem oq_X1_copy_29 : cw_ho 16 29 (.putfield 28) 3 1 3 0 := rfl
theorem oq_X1_copy_32 : cw_ho 16 32 (.aload_n 0) 1 0 0 0 := rfl
theorem oq_X1_copy_33 : cw_ho 16 33 (.aload_n 1) 1 0 0 0 := rfl
theorem oq_X1_copy_34 : cw_ho 16 34 (.getfield 31) 3 1 4 0 := rfl
theorem oq_X1_copy_37 : cw_ho 16 37 (.putfield 31) 3 1 4 0 := rfl
theorem oq_X1_copy_40 : cw_ho 16 40 (.aload_n 0) 1 0 0 0 := rfl
theorem oq_X1_copy_41 : cw_ho 16 41 (.aload_n 1) 1 0 0 0 := rfl
theorem oq_X1_copy_42 : cw_ho 16 42 (.getfield 39) 3 1 5 0 := rfl
theorem oq_X1_copy_45 : cw_ho 16 45 (.putfield 39) 3 1 5 0 := rfl
theorem oq_X1_copy_48 : cw_ho 16 48 (.aload_n 0) 1 0 0 0 := rfl
theorem oq_X1_copy_49 : cw_ho 16 49 (.aload_n 1) 1 0 0 0 := rfl
theorem oq_X1_copy_50 : cw_ho 16 50 (.getfield 43) 3 1 6 0 := rfl
theorem oq_X1_copy_53 : cw_ho 16 53 (.putfield 43) 3 1 6 0 := rfl
theorem oq_X1_copy_56 : cw_ho 16 56 (.aload_n 0) 1 0 0 0 := rfl
theorem oq_X1_copy_57 : cw_ho 16 57 (.aload_n 1) 1 0 0 0 := rfl
theorem oq_X1_copy_58 : cw_ho 16 58 (.getfield 44) 3 1 7 0 := rfl
theorem oq_X1_copy_61 : cw_ho 16 61 (.putfield 44) 3 1 7 0 := rfl
theorem oq_X1_copy_64 : cw_ho 16 64 (.aload_n 0) 1 0 0 0 := rfl
theorem oq_X1_copy_65 : cw_ho 16 65 (.aload_n 1) 1 0 0 0 := rfl
theorem oq_X1_copy_66 : cw_ho 16 66 (.getfield 47) 3 1 8 0 := rfl
theorem oq_X1_copy_69 : cw_ho 16 69 (.putfield 47) 3 1 8 0 := rfl
theorem oq_X1_copy_72 : cw_ho 16 72 (.aload_n 0) 1 0 0 0 := rfl
theorem oq_X1_copy_73 : cw_ho 16 73 (.aload_n 1) 1 0 0 0 := rfl
theorem oq_X1_copy_74 : cw_ho 16 74 (.getfield 53) 3 1 9 0 := rfl
theorem oq_X1_copy_77 : cw_ho 16 77 (.putfield 53) 3 1 9 0 := rfl
theorem oq_X1_copy_80 : cw_ho 16 80 (.aload_n 0) 1 0 0 0 := rfl
theorem oq_X1_copy_81 : cw_ho 16 81 (.aload_n 1) 1 0 0 0 := rfl
theorem oq_X1_copy_82 : cw_ho 16 82 (.getfield 54) 3 1 10 0 := rfl
theorem oq_X1_copy_85 : cw_ho 16 85 (.putfield 54) 3 1 10 0 := rfl
theorem oq_X1_copy_88 : cw_ho 16 88 (.aload_n 0) 1 0 0 0 := rfl
theorem oq_X1_copy_89 : cw_ho 16 89 (.aload_n 1) 1 0 0 0 := rfl
theorem oq_X1_copy_90 : cw_ho 16 90 (.getfield 72) 3 1 11 0 := rfl
theorem oq_X1_copy_93 : cw_ho 16 93 (.putfield 72) 3 1 11 0 := rfl
theorem oq_X1_copy_96 : cw_ho 16 96 (.aload_n 0) 1 0 0 0 := rfl
theorem oq_X1_copy_97 : cw_ho 16 97 (.aload_n 1) 1 0 0 0 := rfl
theorem oq_X1_copy_98 : cw_ho 16 98 (.getfield 77) 3 1 12 0 := rfl
theorem oq_X1_copy_101 : cw_ho 16 101 (.putfield 77) 3 1 12 0 := rfl
theorem oq_X1_copy_104 : cw_ho 16 104 (.aload_n 0) 1 0 0 0 := rfl
theorem oq_X1_copy_105 : cw_ho 16 105 (.aload_n 1) 1 0 0 0 := rfl
theorem oq_X1_copy_106 : cw_ho 16 106 (.getfield 80) 3 1 13 0 := rfl
theorem oq_X1_copy_109 : cw_ho 16 109 (.putfield 80) 3 1 13 0 := rfl
theorem oq_X1_copy_112 : cw_ho 16 112 (.aload_n 0) 1 0 0 0 := rfl
theorem oq_X1_copy_113 : cw_ho 16 113 (.aload_n 1) 1 0 0 0 := rfl
theorem oq_X1_copy_114 : cw_ho 16 114 (.getfield 83) 3 1 14 0 := rfl
theorem oq_X1_copy_117 : cw_ho 16 117 (.putfield 83) 3 1 14 0 := rfl
theorem oq_X1_copy_120 : cw_ho 16 120 (.aload_n 0) 1 0 0 0 := rfl
theorem oq_X1_copy_121 : cw_ho 16 121 (.aload_n 1) 1 0 0 0 := rfl
theorem oq_X1_copy_122 : cw_ho 16 122 (.getfield 60) 3 1 15 0 := rfl
theorem oq_X1_copy_125 : cw_ho 16 125 (.putfield 60) 3 1 15 0 := rfl
theorem oq_X1_copy_128 : cw_ho 16 128 (.aload_n 0) 1 0 0 0 := rfl
theorem oq_X1_copy_129 : cw_ho 16 129 (.aload_n 1) 1 0 0 0 := rfl
theorem oq_X1_copy_130 : cw_ho 16 130 (.getfield 64) 3 1 16 0 := rfl
theorem oq_X1_copy_133 : cw_ho 16 133 (.putfield 64) 3 1 16 0 := rfl
theorem oq_X1_copy_136 : cw_ho 16 136 (.return_) 1 0 0 0 := rfl
theorem zGV_f {h h' : cv_H} {K F f : Nat} {v : cv_V} {φ : Nat → Int} (w : cw_Wr h h' K f v) (n : F ≠ K) (g : zGV h F φ) : zGV h' F φ := fun j hj => (ri_ne w (.inl n)).trans (g j hj)
theorem zGV_c {h : cv_H} {K : Nat} {γ φ : Nat → Int} (g : zGV h K (zgU (zgU (zgU (zgU (zgU (zgU (zgU (zgU (zgU (zgU (zgU (zgU (zgU (zgU (zgU (zgU (γ) 1 (φ 1)) 2 (φ 2)) 3 (φ 3)) 4 (φ 4)) 5 (φ 5)) 6 (φ 6)) 7 (φ 7)) 8 (φ 8)) 9 (φ 9)) 10 (φ 10)) 11 (φ 11)) 12 (φ 12)) 13 (φ 13)) 14 (φ 14)) 15 (φ 15)) 16 (φ 16))) : zGV h K φ := by
  intro j hj
  rw [g j hj]
  have : j = 1 ∨ j = 2 ∨ j = 3 ∨ j = 4 ∨ j = 5 ∨ j = 6 ∨ j = 7 ∨ j = 8 ∨ j = 9 ∨ j = 10 ∨ j = 11 ∨ j = 12 ∨ j = 13 ∨ j = 14 ∨ j = 15 ∨ j = 16 := by omega
  rcases this with rfl | rfl | rfl | rfl | rfl | rfl | rfl | rfl | rfl | rfl | rfl | rfl | rfl | rfl | rfl | rfl <;> rfl
theorem cg_copy (hT : cw_T G h) {K F U : Nat} (hK : cw_sh[K]? = some 1) (hF : cw_sh[F]? = some 1) (hFK : F ≠ K) (hU : cw_sh[U]? = some 7) (hpF : cw_at h F 0 = some (cv_r U)) {φ : Nat → Int} (gF : zGV h F φ) (hQ : ∀ h', cw_T G h' → cp_F K h h' → zGV h' K φ → cw_at h' K 0 = some (cv_r U) → Q (none, h')) : cw_X X 16 Q 0 (cv_ent 0 [cv_r K, cv_r F]) [] h := by
  obtain ⟨γ, gv⟩ : ∃ γ, zGV h K γ := ⟨fun j => ri_at h K j, fun _ _ => rfl⟩
  refine ex_al oq_X1_copy_0 rfl ?_
  refine ex_al oq_X1_copy_1 rfl ?_
  refine ex_gf oq_X1_copy_2 hT (k := F) (d := 1) hF rfl (hpF) ?_
  refine ex_pfr oq_X1_copy_5 hT (k := K) (d := 1) (v := U) hK rfl rfl (by decide) hU rfl (fun h11 Th11 wh11 => ?_)
  have gvh11 : zGV h11 K (γ) := zGV_0 wh11 gv
  have hph11 := wh11.1
  have cfh11 : cp_F K h h11 := cp_w wh11 cp_0
  have gFh11 : zGV h11 F φ := zGV_f wh11 hFK gF
  have hpFh11 : cw_at h11 F 0 = some (cv_r U) := (wh11.2.1 F 0 (.inl hFK)).trans hpF
  refine ex_al oq_X1_copy_8 rfl ?_
  refine ex_al oq_X1_copy_9 rfl ?_
  obtain ⟨x12, ax12, rx12, lx12, ux12⟩ := ri_fld (k := F) (d := 1) (f := 1) Th11 hF rfl rfl
  try dsimp only at lx12 ux12
  refine ex_gf oq_X1_copy_10 Th11 (k := F) (d := 1) hF rfl ax12 ?_
  clear lx12 ux12
  have rx12 := (rx12.symm.trans (gFh11 1 (by decide)) : x12.toInt = φ 1)
  refine ex_pfi oq_X1_copy_13 Th11 (k := K) (d := 1) hK rfl rfl (cw_i32 _).1 (cw_i32 _).2 (fun h13 Th13 wh13 => ?_)
  have gvh13 : zGV h13 K (zgU (γ) 1 (φ 1)) := zGV_w wh13 (show x12.toInt = φ 1 from by omega) gvh11
  have hph13 : cw_at h13 K 0 = some (cv_r U) := (wh13.2.1 K 0 (.inr (by decide))).trans hph11
  have cfh13 : cp_F K h h13 := cp_w wh13 cfh11
  have gFh13 : zGV h13 F φ := zGV_f wh13 hFK gFh11
  have hpFh13 : cw_at h13 F 0 = some (cv_r U) := (wh13.2.1 F 0 (.inl hFK)).trans hpFh11
  refine ex_al oq_X1_copy_16 rfl ?_
  refine ex_al oq_X1_copy_17 rfl ?_
  obtain ⟨x14, ax14, rx14, lx14, ux14⟩ := ri_fld (k := F) (d := 1) (f := 2) Th13 hF rfl rfl
  try dsimp only at lx14 ux14
  refine ex_gf oq_X1_copy_18 Th13 (k := F) (d := 1) hF rfl ax14 ?_
  clear lx14 ux14
  have rx14 := (rx14.symm.trans (gFh13 2 (by decide)) : x14.toInt = φ 2)
  refine ex_pfi oq_X1_copy_21 Th13 (k := K) (d := 1) hK rfl rfl (cw_i32 _).1 (cw_i32 _).2 (fun h15 Th15 wh15 => ?_)
  have gvh15 : zGV h15 K (zgU (zgU (γ) 1 (φ 1)) 2 (φ 2)) := zGV_w wh15 (show x14.toInt = φ 2 from by omega) gvh13
  have hph15 : cw_at h15 K 0 = some (cv_r U) := (wh15.2.1 K 0 (.inr (by decide))).trans hph13
  have cfh15 : cp_F K h h15 := cp_w wh15 cfh13
  have gFh15 : zGV h15 F φ := zGV_f wh15 hFK gFh13
  have hpFh15 : cw_at h15 F 0 = some (cv_r U) := (wh15.2.1 F 0 (.inl hFK)).trans hpFh13
  refine ex_al oq_X1_copy_24 rfl ?_
  refine ex_al oq_X1_copy_25 rfl ?_
  obtain ⟨x16, ax16, rx16, lx16, ux16⟩ := ri_fld (k := F) (d := 1) (f := 3) Th15 hF rfl rfl
  try dsimp only at lx16 ux16
  refine ex_gf oq_X1_copy_26 Th15 (k := F) (d := 1) hF rfl ax16 ?_
  clear lx16 ux16
  have rx16 := (rx16.symm.trans (gFh15 3 (by decide)) : x16.toInt = φ 3)
  refine ex_pfi oq_X1_copy_29 Th15 (k := K) (d := 1) hK rfl rfl (cw_i32 _).1 (cw_i32 _).2 (fun h17 Th17 wh17 => ?_)
  have gvh17 : zGV h17 K (zgU (zgU (zgU (γ) 1 (φ 1)) 2 (φ 2)) 3 (φ 3)) := zGV_w wh17 (show x16.toInt = φ 3 from by omega) gvh15
  have hph17 : cw_at h17 K 0 = some (cv_r U) := (wh17.2.1 K 0 (.inr (by decide))).trans hph15
  have cfh17 : cp_F K h h17 := cp_w wh17 cfh15
  have gFh17 : zGV h17 F φ := zGV_f wh17 hFK gFh15
  have hpFh17 : cw_at h17 F 0 = some (cv_r U) := (wh17.2.1 F 0 (.inl hFK)).trans hpFh15
  refine ex_al oq_X1_copy_32 rfl ?_
  refine ex_al oq_X1_copy_33 rfl ?_
  obtain ⟨x18, ax18, rx18, lx18, ux18⟩ := ri_fld (k := F) (d := 1) (f := 4) Th17 hF rfl rfl
  try dsimp only at lx18 ux18
  refine ex_gf oq_X1_copy_34 Th17 (k := F) (d := 1) hF rfl ax18 ?_
  clear lx18 ux18
  have rx18 := (rx18.symm.trans (gFh17 4 (by decide)) : x18.toInt = φ 4)
  refine ex_pfi oq_X1_copy_37 Th17 (k := K) (d := 1) hK rfl rfl (cw_i32 _).1 (cw_i32 _).2 (fun h19 Th19 wh19 => ?_)
  have gvh19 : zGV h19 K (zgU (zgU (zgU (zgU (γ) 1 (φ 1)) 2 (φ 2)) 3 (φ 3)) 4 (φ 4)) := zGV_w wh19 (show x18.toInt = φ 4 from by omega) gvh17
  have hph19 : cw_at h19 K 0 = some (cv_r U) := (wh19.2.1 K 0 (.inr (by decide))).trans hph17
  have cfh19 : cp_F K h h19 := cp_w wh19 cfh17
  have gFh19 : zGV h19 F φ := zGV_f wh19 hFK gFh17
  have hpFh19 : cw_at h19 F 0 = some (cv_r U) := (wh19.2.1 F 0 (.inl hFK)).trans hpFh17
  refine ex_al oq_X1_copy_40 rfl ?_
  refine ex_al oq_X1_copy_41 rfl ?_
  obtain ⟨x20, ax20, rx20, lx20, ux20⟩ := ri_fld (k := F) (d := 1) (f := 5) Th19 hF rfl rfl
  try dsimp only at lx20 ux20
  refine ex_gf oq_X1_copy_42 Th19 (k := F) (d := 1) hF rfl ax20 ?_
  clear lx20 ux20
  have rx20 := (rx20.symm.trans (gFh19 5 (by decide)) : x20.toInt = φ 5)
  refine ex_pfi oq_X1_copy_45 Th19 (k := K) (d := 1) hK rfl rfl (cw_i32 _).1 (cw_i32 _).2 (fun h21 Th21 wh21 => ?_)
  have gvh21 : zGV h21 K (zgU (zgU (zgU (zgU (zgU (γ) 1 (φ 1)) 2 (φ 2)) 3 (φ 3)) 4 (φ 4)) 5 (φ 5)) := zGV_w wh21 (show x20.toInt = φ 5 from by omega) gvh19
  have hph21 : cw_at h21 K 0 = some (cv_r U) := (wh21.2.1 K 0 (.inr (by decide))).trans hph19
  have cfh21 : cp_F K h h21 := cp_w wh21 cfh19
  have gFh21 : zGV h21 F φ := zGV_f wh21 hFK gFh19
  have hpFh21 : cw_at h21 F 0 = some (cv_r U) := (wh21.2.1 F 0 (.inl hFK)).trans hpFh19
  refine ex_al oq_X1_copy_48 rfl ?_
  refine ex_al oq_X1_copy_49 rfl ?_
  obtain ⟨x22, ax22, rx22, lx22, ux22⟩ := ri_fld (k := F) (d := 1) (f := 6) Th21 hF rfl rfl
  try dsimp only at lx22 ux22
  refine ex_gf oq_X1_copy_50 Th21 (k := F) (d := 1) hF rfl ax22 ?_
  clear lx22 ux22
  have rx22 := (rx22.symm.trans (gFh21 6 (by decide)) : x22.toInt = φ 6)
  refine ex_pfi oq_X1_copy_53 Th21 (k := K) (d := 1) hK rfl rfl (cw_i32 _).1 (cw_i32 _).2 (fun h23 Th23 wh23 => ?_)
  have gvh23 : zGV h23 K (zgU (zgU (zgU (zgU (zgU (zgU (γ) 1 (φ 1)) 2 (φ 2)) 3 (φ 3)) 4 (φ 4)) 5 (φ 5)) 6 (φ 6)) := zGV_w wh23 (show x22.toInt = φ 6 from by omega) gvh21
  have hph23 : cw_at h23 K 0 = some (cv_r U) := (wh23.2.1 K 0 (.inr (by decide))).trans hph21
  have cfh23 : cp_F K h h23 := cp_w wh23 cfh21
  have gFh23 : zGV h23 F φ := zGV_f wh23 hFK gFh21
  have hpFh23 : cw_at h23 F 0 = some (cv_r U) := (wh23.2.1 F 0 (.inl hFK)).trans hpFh21
  refine ex_al oq_X1_copy_56 rfl ?_
  refine ex_al oq_X1_copy_57 rfl ?_
  obtain ⟨x24, ax24, rx24, lx24, ux24⟩ := ri_fld (k := F) (d := 1) (f := 7) Th23 hF rfl rfl
  try dsimp only at lx24 ux24
  refine ex_gf oq_X1_copy_58 Th23 (k := F) (d := 1) hF rfl ax24 ?_
  clear lx24 ux24
  have rx24 := (rx24.symm.trans (gFh23 7 (by decide)) : x24.toInt = φ 7)
  refine ex_pfi oq_X1_copy_61 Th23 (k := K) (d := 1) hK rfl rfl (cw_i32 _).1 (cw_i32 _).2 (fun h25 Th25 wh25 => ?_)
  have gvh25 : zGV h25 K (zgU (zgU (zgU (zgU (zgU (zgU (zgU (γ) 1 (φ 1)) 2 (φ 2)) 3 (φ 3)) 4 (φ 4)) 5 (φ 5)) 6 (φ 6)) 7 (φ 7)) := zGV_w wh25 (show x24.toInt = φ 7 from by omega) gvh23
  have hph25 : cw_at h25 K 0 = some (cv_r U) := (wh25.2.1 K 0 (.inr (by decide))).trans hph23
  have cfh25 : cp_F K h h25 := cp_w wh25 cfh23
  have gFh25 : zGV h25 F φ := zGV_f wh25 hFK gFh23
  have hpFh25 : cw_at h25 F 0 = some (cv_r U) := (wh25.2.1 F 0 (.inl hFK)).trans hpFh23
  refine ex_al oq_X1_copy_64 rfl ?_
  refine ex_al oq_X1_copy_65 rfl ?_
  obtain ⟨x26, ax26, rx26, lx26, ux26⟩ := ri_fld (k := F) (d := 1) (f := 8) Th25 hF rfl rfl
  try dsimp only at lx26 ux26
  refine ex_gf oq_X1_copy_66 Th25 (k := F) (d := 1) hF rfl ax26 ?_
  clear lx26 ux26
  have rx26 := (rx26.symm.trans (gFh25 8 (by decide)) : x26.toInt = φ 8)
  refine ex_pfi oq_X1_copy_69 Th25 (k := K) (d := 1) hK rfl rfl (cw_i32 _).1 (cw_i32 _).2 (fun h27 Th27 wh27 => ?_)
  have gvh27 : zGV h27 K (zgU (zgU (zgU (zgU (zgU (zgU (zgU (zgU (γ) 1 (φ 1)) 2 (φ 2)) 3 (φ 3)) 4 (φ 4)) 5 (φ 5)) 6 (φ 6)) 7 (φ 7)) 8 (φ 8)) := zGV_w wh27 (show x26.toInt = φ 8 from by omega) gvh25
  have hph27 : cw_at h27 K 0 = some (cv_r U) := (wh27.2.1 K 0 (.inr (by decide))).trans hph25
  have cfh27 : cp_F K h h27 := cp_w wh27 cfh25
  have gFh27 : zGV h27 F φ := zGV_f wh27 hFK gFh25
  have hpFh27 : cw_at h27 F 0 = some (cv_r U) := (wh27.2.1 F 0 (.inl hFK)).trans hpFh25
  refine ex_al oq_X1_copy_72 rfl ?_
  refine ex_al oq_X1_copy_73 rfl ?_
  obtain ⟨x28, ax28, rx28, lx28, ux28⟩ := ri_fld (k := F) (d := 1) (f := 9) Th27 hF rfl rfl
  try dsimp only at lx28 ux28
  refine ex_gf oq_X1_copy_74 Th27 (k := F) (d := 1) hF rfl ax28 ?_
  clear lx28 ux28
  have rx28 := (rx28.symm.trans (gFh27 9 (by decide)) : x28.toInt = φ 9)
  refine ex_pfi oq_X1_copy_77 Th27 (k := K) (d := 1) hK rfl rfl (cw_i32 _).1 (cw_i32 _).2 (fun h29 Th29 wh29 => ?_)
  have gvh29 : zGV h29 K (zgU (zgU (zgU (zgU (zgU (zgU (zgU (zgU (zgU (γ) 1 (φ 1)) 2 (φ 2)) 3 (φ 3)) 4 (φ 4)) 5 (φ 5)) 6 (φ 6)) 7 (φ 7)) 8 (φ 8)) 9 (φ 9)) := zGV_w wh29 (show x28.toInt = φ 9 from by omega) gvh27
  have hph29 : cw_at h29 K 0 = some (cv_r U) := (wh29.2.1 K 0 (.inr (by decide))).trans hph27
  have cfh29 : cp_F K h h29 := cp_w wh29 cfh27
  have gFh29 : zGV h29 F φ := zGV_f wh29 hFK gFh27
  have hpFh29 : cw_at h29 F 0 = some (cv_r U) := (wh29.2.1 F 0 (.inl hFK)).trans hpFh27
  refine ex_al oq_X1_copy_80 rfl ?_
  refine ex_al oq_X1_copy_81 rfl ?_
  obtain ⟨x30, ax30, rx30, lx30, ux30⟩ := ri_fld (k := F) (d := 1) (f := 10) Th29 hF rfl rfl
  try dsimp only at lx30 ux30
  refine ex_gf oq_X1_copy_82 Th29 (k := F) (d := 1) hF rfl ax30 ?_
  clear lx30 ux30
  have rx30 := (rx30.symm.trans (gFh29 10 (by decide)) : x30.toInt = φ 10)
  refine ex_pfi oq_X1_copy_85 Th29 (k := K) (d := 1) hK rfl rfl (cw_i32 _).1 (cw_i32 _).2 (fun h31 Th31 wh31 => ?_)
  have gvh31 : zGV h31 K (zgU (zgU (zgU (zgU (zgU (zgU (zgU (zgU (zgU (zgU (γ) 1 (φ 1)) 2 (φ 2)) 3 (φ 3)) 4 (φ 4)) 5 (φ 5)) 6 (φ 6)) 7 (φ 7)) 8 (φ 8)) 9 (φ 9)) 10 (φ 10)) := zGV_w wh31 (show x30.toInt = φ 10 from by omega) gvh29
  have hph31 : cw_at h31 K 0 = some (cv_r U) := (wh31.2.1 K 0 (.inr (by decide))).trans hph29
  have cfh31 : cp_F K h h31 := cp_w wh31 cfh29
  have gFh31 : zGV h31 F φ := zGV_f wh31 hFK gFh29
  have hpFh31 : cw_at h31 F 0 = some (cv_r U) := (wh31.2.1 F 0 (.inl hFK)).trans hpFh29
  refine ex_al oq_X1_copy_88 rfl ?_
  refine ex_al oq_X1_copy_89 rfl ?_
  obtain ⟨x32, ax32, rx32, lx32, ux32⟩ := ri_fld (k := F) (d := 1) (f := 11) Th31 hF rfl rfl
  try dsimp only at lx32 ux32
  refine ex_gf oq_X1_copy_90 Th31 (k := F) (d := 1) hF rfl ax32 ?_
  clear lx32 ux32
  have rx32 := (rx32.symm.trans (gFh31 11 (by decide)) : x32.toInt = φ 11)
  refine ex_pfi oq_X1_copy_93 Th31 (k := K) (d := 1) hK rfl rfl (cw_i32 _).1 (cw_i32 _).2 (fun h33 Th33 wh33 => ?_)
  have gvh33 : zGV h33 K (zgU (zgU (zgU (zgU (zgU (zgU (zgU (zgU (zgU (zgU (zgU (γ) 1 (φ 1)) 2 (φ 2)) 3 (φ 3)) 4 (φ 4)) 5 (φ 5)) 6 (φ 6)) 7 (φ 7)) 8 (φ 8)) 9 (φ 9)) 10 (φ 10)) 11 (φ 11)) := zGV_w wh33 (show x32.toInt = φ 11 from by omega) gvh31
  have hph33 : cw_at h33 K 0 = some (cv_r U) := (wh33.2.1 K 0 (.inr (by decide))).trans hph31
  have cfh33 : cp_F K h h33 := cp_w wh33 cfh31
  have gFh33 : zGV h33 F φ := zGV_f wh33 hFK gFh31
  have hpFh33 : cw_at h33 F 0 = some (cv_r U) := (wh33.2.1 F 0 (.inl hFK)).trans hpFh31
  refine ex_al oq_X1_copy_96 rfl ?_
  refine ex_al oq_X1_copy_97 rfl ?_
  obtain ⟨x34, ax34, rx34, lx34, ux34⟩ := ri_fld (k := F) (d := 1) (f := 12) Th33 hF rfl rfl
  try dsimp only at lx34 ux34
  refine ex_gf oq_X1_copy_98 Th33 (k := F) (d := 1) hF rfl ax34 ?_
  clear lx34 ux34
  have rx34 := (rx34.symm.trans (gFh33 12 (by decide)) : x34.toInt = φ 12)
  refine ex_pfi oq_X1_copy_101 Th33 (k := K) (d := 1) hK rfl rfl (cw_i32 _).1 (cw_i32 _).2 (fun h35 Th35 wh35 => ?_)
  have gvh35 : zGV h35 K (zgU (zgU (zgU (zgU (zgU (zgU (zgU (zgU (zgU (zgU (zgU (zgU (γ) 1 (φ 1)) 2 (φ 2)) 3 (φ 3)) 4 (φ 4)) 5 (φ 5)) 6 (φ 6)) 7 (φ 7)) 8 (φ 8)) 9 (φ 9)) 10 (φ 10)) 11 (φ 11)) 12 (φ 12)) := zGV_w wh35 (show x34.toInt = φ 12 from by omega) gvh33
  have hph35 : cw_at h35 K 0 = some (cv_r U) := (wh35.2.1 K 0 (.inr (by decide))).trans hph33
  have cfh35 : cp_F K h h35 := cp_w wh35 cfh33
  have gFh35 : zGV h35 F φ := zGV_f wh35 hFK gFh33
  have hpFh35 : cw_at h35 F 0 = some (cv_r U) := (wh35.2.1 F 0 (.inl hFK)).trans hpFh33
  refine ex_al oq_X1_copy_104 rfl ?_
  refine ex_al oq_X1_copy_105 rfl ?_
  obtain ⟨x36, ax36, rx36, lx36, ux36⟩ := ri_fld (k := F) (d := 1) (f := 13) Th35 hF rfl rfl
  try dsimp only at lx36 ux36
  refine ex_gf oq_X1_copy_106 Th35 (k := F) (d := 1) hF rfl ax36 ?_
  clear lx36 ux36
  have rx36 := (rx36.symm.trans (gFh35 13 (by decide)) : x36.toInt = φ 13)
  refine ex_pfi oq_X1_copy_109 Th35 (k := K) (d := 1) hK rfl rfl (cw_i32 _).1 (cw_i32 _).2 (fun h37 Th37 wh37 => ?_)
  have gvh37 : zGV h37 K (zgU (zgU (zgU (zgU (zgU (zgU (zgU (zgU (zgU (zgU (zgU (zgU (zgU (γ) 1 (φ 1)) 2 (φ 2)) 3 (φ 3)) 4 (φ 4)) 5 (φ 5)) 6 (φ 6)) 7 (φ 7)) 8 (φ 8)) 9 (φ 9)) 10 (φ 10)) 11 (φ 11)) 12 (φ 12)) 13 (φ 13)) := zGV_w wh37 (show x36.toInt = φ 13 from by omega) gvh35
  have hph37 : cw_at h37 K 0 = some (cv_r U) := (wh37.2.1 K 0 (.inr (by decide))).trans hph35
  have cfh37 : cp_F K h h37 := cp_w wh37 cfh35
  have gFh37 : zGV h37 F φ := zGV_f wh37 hFK gFh35
  have hpFh37 : cw_at h37 F 0 = some (cv_r U) := (wh37.2.1 F 0 (.inl hFK)).trans hpFh35
  refine ex_al oq_X1_copy_112 rfl ?_
  refine ex_al oq_X1_copy_113 rfl ?_
  obtain ⟨x38, ax38, rx38, lx38, ux38⟩ := ri_fld (k := F) (d := 1) (f := 14) Th37 hF rfl rfl
  try dsimp only at lx38 ux38
  refine ex_gf oq_X1_copy_114 Th37 (k := F) (d := 1) hF rfl ax38 ?_
  clear lx38 ux38
  have rx38 := (rx38.symm.trans (gFh37 14 (by decide)) : x38.toInt = φ 14)
  refine ex_pfi oq_X1_copy_117 Th37 (k := K) (d := 1) hK rfl rfl (cw_i32 _).1 (cw_i32 _).2 (fun h39 Th39 wh39 => ?_)
  have gvh39 : zGV h39 K (zgU (zgU (zgU (zgU (zgU (zgU (zgU (zgU (zgU (zgU (zgU (zgU (zgU (zgU (γ) 1 (φ 1)) 2 (φ 2)) 3 (φ 3)) 4 (φ 4)) 5 (φ 5)) 6 (φ 6)) 7 (φ 7)) 8 (φ 8)) 9 (φ 9)) 10 (φ 10)) 11 (φ 11)) 12 (φ 12)) 13 (φ 13)) 14 (φ 14)) := zGV_w wh39 (show x38.toInt = φ 14 from by omega) gvh37
  have hph39 : cw_at h39 K 0 = some (cv_r U) := (wh39.2.1 K 0 (.inr (by decide))).trans hph37
  have cfh39 : cp_F K h h39 := cp_w wh39 cfh37
  have gFh39 : zGV h39 F φ := zGV_f wh39 hFK gFh37
  have hpFh39 : cw_at h39 F 0 = some (cv_r U) := (wh39.2.1 F 0 (.inl hFK)).trans hpFh37
  refine ex_al oq_X1_copy_120 rfl ?_
  refine ex_al oq_X1_copy_121 rfl ?_
  obtain ⟨x40, ax40, rx40, lx40, ux40⟩ := ri_fld (k := F) (d := 1) (f := 15) Th39 hF rfl rfl
  try dsimp only at lx40 ux40
  refine ex_gf oq_X1_copy_122 Th39 (k := F) (d := 1) hF rfl ax40 ?_
  clear lx40 ux40
  have rx40 := (rx40.symm.trans (gFh39 15 (by decide)) : x40.toInt = φ 15)
  refine ex_pfi oq_X1_copy_125 Th39 (k := K) (d := 1) hK rfl rfl (cw_i32 _).1 (cw_i32 _).2 (fun h41 Th41 wh41 => ?_)
  have gvh41 : zGV h41 K (zgU (zgU (zgU (zgU (zgU (zgU (zgU (zgU (zgU (zgU (zgU (zgU (zgU (zgU (zgU (γ) 1 (φ 1)) 2 (φ 2)) 3 (φ 3)) 4 (φ 4)) 5 (φ 5)) 6 (φ 6)) 7 (φ 7)) 8 (φ 8)) 9 (φ 9)) 10 (φ 10)) 11 (φ 11)) 12 (φ 12)) 13 (φ 13)) 14 (φ 14)) 15 (φ 15)) := zGV_w wh41 (show x40.toInt = φ 15 from by omega) gvh39
  have hph41 : cw_at h41 K 0 = some (cv_r U) := (wh41.2.1 K 0 (.inr (by decide))).trans hph39
  have cfh41 : cp_F K h h41 := cp_w wh41 cfh39
  have gFh41 : zGV h41 F φ := zGV_f wh41 hFK gFh39
  have hpFh41 : cw_at h41 F 0 = some (cv_r U) := (wh41.2.1 F 0 (.inl hFK)).trans hpFh39
  refine ex_al oq_X1_copy_128 rfl ?_
  refine ex_al oq_X1_copy_129 rfl ?_
  obtain ⟨x42, ax42, rx42, lx42, ux42⟩ := ri_fld (k := F) (d := 1) (f := 16) Th41 hF rfl rfl
  try dsimp only at lx42 ux42
  refine ex_gf oq_X1_copy_130 Th41 (k := F) (d := 1) hF rfl ax42 ?_
  clear lx42 ux42
  have rx42 := (rx42.symm.trans (gFh41 16 (by decide)) : x42.toInt = φ 16)
  refine ex_pfi oq_X1_copy_133 Th41 (k := K) (d := 1) hK rfl rfl (cw_i32 _).1 (cw_i32 _).2 (fun h43 Th43 wh43 => ?_)
  have gvh43 : zGV h43 K (zgU (zgU (zgU (zgU (zgU (zgU (zgU (zgU (zgU (zgU (zgU (zgU (zgU (zgU (zgU (zgU (γ) 1 (φ 1)) 2 (φ 2)) 3 (φ 3)) 4 (φ 4)) 5 (φ 5)) 6 (φ 6)) 7 (φ 7)) 8 (φ 8)) 9 (φ 9)) 10 (φ 10)) 11 (φ 11)) 12 (φ 12)) 13 (φ 13)) 14 (φ 14)) 15 (φ 15)) 16 (φ 16)) := zGV_w wh43 (show x42.toInt = φ 16 from by omega) gvh41
  have hph43 : cw_at h43 K 0 = some (cv_r U) := (wh43.2.1 K 0 (.inr (by decide))).trans hph41
  have cfh43 : cp_F K h h43 := cp_w wh43 cfh41
  have gFh43 : zGV h43 F φ := zGV_f wh43 hFK gFh41
  have hpFh43 : cw_at h43 F 0 = some (cv_r U) := (wh43.2.1 F 0 (.inl hFK)).trans hpFh41
  exact ex_retv oq_X1_copy_136 rfl (hQ h43 Th43 cfh43 (zGV_c gvh43) hph43)
theorem oq_X4_moreBy_5 : cw_ho 56 5 (.iload 4) 2 0 0 0 := rfl
theorem oq_X4_moreBy_7 : cw_ho 56 7 (.aload_n 0) 1 0 0 0 := rfl
theorem oq_X4_moreBy_8 : cw_ho 56 8 (.getfield 78) 3 4 19 0 := rfl
theorem oq_X4_moreBy_11 : cw_ho 56 11 (.if_icmp .ge 46) 3 0 0 0 := rfl
theorem oq_X4_moreBy_14 : cw_ho 56 14 (.iload 4) 2 0 0 0 := rfl
theorem oq_X4_moreBy_16 : cw_ho 56 16 (.bipush 6) 2 0 0 0 := rfl
theorem oq_X4_moreBy_18 : cw_ho 56 18 (.if_icmp .ge 39) 3 0 0 0 := rfl
theorem oq_X4_moreBy_21 : cw_ho 56 21 (.iload_n 1) 1 0 0 0 := rfl
theorem oq_X4_moreBy_22 : cw_ho 56 22 (.iconst 1) 1 0 0 0 := rfl
theorem oq_X4_moreBy_23 : cw_ho 56 23 (.iload 4) 2 0 0 0 := rfl
theorem oq_X4_moreBy_25 : cw_ho 56 25 (.ishl) 1 0 0 0 := rfl
theorem oq_X4_moreBy_26 : cw_ho 56 26 (.iand) 1 0 0 0 := rfl
theorem oq_X4_moreBy_27 : cw_ho 56 27 (.ifCond .eq 24) 3 0 0 0 := rfl
theorem oq_X4_moreBy_30 : cw_ho 56 30 (.aload_n 0) 1 0 0 0 := rfl
theorem oq_X4_moreBy_31 : cw_ho 56 31 (.getfield 54) 3 4 17 4 := rfl
theorem oq_X4_moreBy_34 : cw_ho 56 34 (.iload 4) 2 0 0 0 := rfl
theorem oq_X4_moreBy_36 : cw_ho 56 36 (.iaload) 1 0 0 0 := rfl
theorem oq_X4_moreBy_37 : cw_ho 56 37 (.iload_n 2) 1 0 0 0 := rfl
theorem oq_X4_moreBy_38 : cw_ho 56 38 (.if_icmp .ne 13) 3 0 0 0 := rfl
theorem oq_X4_moreBy_41 : cw_ho 56 41 (.iload_n 3) 1 0 0 0 := rfl
theorem oq_X4_moreBy_42 : cw_ho 56 42 (.aload_n 0) 1 0 0 0 := rfl
theorem oq_X4_moreBy_43 : cw_ho 56 43 (.getfield 57) 3 4 18 4 := rfl
theorem oq_X4_moreBy_46 : cw_ho 56 46 (.iload 4) 2 0 0 0 := rfl
theorem oq_X4_moreBy_48 : cw_ho 56 48 (.iaload) 1 0 0 0 := rfl
theorem oq_X4_moreBy_49 : cw_ho 56 49 (.iadd) 1 0 0 0 := rfl
theorem oq_X4_moreBy_50 : cw_ho 56 50 (.istore_n 3) 1 0 0 0 := rfl
theorem oq_X4_moreBy_51 : cw_ho 56 51 (.iinc 4 1) 3 0 0 0 := rfl
theorem oq_X4_moreBy_54 : cw_ho 56 54 (.goto (-49)) 3 0 0 0 := rfl
theorem oq_X4_moreBy_57 : cw_ho 56 57 (.iload_n 3) 1 0 0 0 := rfl
theorem oq_X4_moreBy_58 : cw_ho 56 58 (.ireturn) 1 0 0 0 := rfl
theorem cg_mb {b R1 R2 : Nat} (hT : cw_T G h) (hb : cw_sh[b]? = some 4) (h1 : cw_sh[R1]? = some 41) (h2 : cw_sh[R2]? = some 42) (p1 : cw_at h b 17 = some (cv_r R1)) (p2 : cw_at h b 18 = some (cv_r R2)) {n : Nat} (hn : ri_at h b 19 = n) (hn6 : n ≤ 6) {dk dv : List Int} (d1 : ∀ c, c < n → ri_at h R1 c = dk.getD c 0) (d2 : ∀ c, c < n → ri_at h R2 c = dv.getD c 0) (hv : ∀ c, 0 ≤ dv.getD c 0 ∧ dv.getD c 0 ≤ 999) {s k : Int32} {S : Nat} (hS : s.toInt = S) (hS64 : S < 64) (hQ : ∀ x : Int32, x.toInt = zMs dk dv S k.toInt n → Q (some (cv_i x), h)) : ∀ (f c : Nat) (M C : Int32) (L : cv_L), n - c = f → c ≤ n → C.toInt = c → M.toInt = zMs dk dv S k.toInt c → cv_get L 0 = some (cv_r b) → cv_get L 1 = some (cv_i s) → cv_get L 2 = some (cv_i k) → cv_get L 3 = some (cv_i M) → cv_get L 4 = some (cv_i C) → cw_X X 56 Q 5 L [] h := by
  intro f
  induction f with
  | zero =>
    intro c M C L hf hcn hC hM g0 g1 g2 g3 g4
    refine ex_ilw oq_X4_moreBy_5 g4 ?_
    refine ex_al oq_X4_moreBy_7 g0 ?_
    obtain ⟨x101, ax101, rx101, lx101, ux101⟩ := ri_fld (k := b) (d := 4) (f := 19) hT hb rfl rfl
    try dsimp only at lx101 ux101
    refine ex_gf oq_X4_moreBy_8 hT (k := b) (d := 4) hb rfl ax101 ?_
    have rx101 := (rx101.symm.trans hn : x101.toInt = (n : Int))
    refine ex_if oq_X4_moreBy_11 (t := 57) rfl rfl (fun (c102 : x101.toInt ≤ C.toInt) => ?_) (fun (c102 : ¬ (x101.toInt ≤ C.toInt)) => ?_)
    · refine ex_il oq_X4_moreBy_57 g3 ?_
      exact ex_reti oq_X4_moreBy_58 rfl (hQ M (by rw [hM, show c = n from by omega]))
    · exfalso; omega
  | succ f ih =>
    intro c M C L hf hcn hC hM g0 g1 g2 g3 g4
    have mb := zMs_b (dk := dk) (S := S) (kind := k.toInt) hv c
    have hv1 := hv c
    refine ex_ilw oq_X4_moreBy_5 g4 ?_
    refine ex_al oq_X4_moreBy_7 g0 ?_
    obtain ⟨x101, ax101, rx101, lx101, ux101⟩ := ri_fld (k := b) (d := 4) (f := 19) hT hb rfl rfl
    try dsimp only at lx101 ux101
    refine ex_gf oq_X4_moreBy_8 hT (k := b) (d := 4) hb rfl ax101 ?_
    have rx101 := (rx101.symm.trans hn : x101.toInt = (n : Int))
    refine ex_if oq_X4_moreBy_11 (t := 57) rfl rfl (fun (c102 : x101.toInt ≤ C.toInt) => ?_) (fun (c102 : ¬ (x101.toInt ≤ C.toInt)) => ?_)
    · exfalso; omega
    · refine ex_ilw oq_X4_moreBy_14 g4 ?_
      refine ex_bi oq_X4_moreBy_16 (m := 6) (by decide) (fun x103 hx103 => ?_)
      refine ex_if oq_X4_moreBy_18 (t := 57) rfl rfl (fun (c104 : x103.toInt ≤ C.toInt) => ?_) (fun (c104 : ¬ (x103.toInt ≤ C.toInt)) => ?_)
      · exfalso; omega
      · refine ex_il oq_X4_moreBy_21 g1 ?_
        refine ex_ic oq_X4_moreBy_22 (m := 1) (by decide) (fun x105 hx105 => ?_)
        refine ex_ilw oq_X4_moreBy_23 g4 ?_
        refine ex_shlE oq_X4_moreBy_25 (fun x106 hx106 => ?_)
        refine ex_andE oq_X4_moreBy_26 (fun x107 hx107 => ?_)
        refine ex_if0 oq_X4_moreBy_27 (t := 51) rfl rfl (fun (c108 : x107.toInt = 0) => ?_) (fun (c108 : ¬ (x107.toInt = 0)) => ?_)
        · have bz := bt_z (show x107.toInt = _ from by rw [hx107, hx106]; exact bt_an hS (by omega) hC (by omega) hx105)
          refine ex_incA oq_X4_moreBy_51 (v := C) (m := 1) g4 (by decide) (by omega) (fun L110 x109 hx109 gL110_4 kL110 => ?_)
          have gL110_0 : cv_get L110 0 = some (cv_r b) := kL110 0 _ (by decide) (fun q => absurd q (by decide)) g0
          have gL110_1 : cv_get L110 1 = some (cv_i s) := kL110 1 _ (by decide) (fun q => absurd q (by decide)) g1
          have gL110_2 : cv_get L110 2 = some (cv_i k) := kL110 2 _ (by decide) (fun q => absurd q (by decide)) g2
          have gL110_3 : cv_get L110 3 = some (cv_i M) := kL110 3 _ (by decide) (fun _ => rfl) g3
          refine ex_go oq_X4_moreBy_54 (t := 5) rfl rfl ?_
          exact ih (c + 1) M x109 L110 (by omega) (by omega) (by omega) (by unfold zMs; rw [if_neg (fun q => bz.1 (by omega) q.1)]; omega) gL110_0 gL110_1 gL110_2 gL110_3 gL110_4
        · have bz := bt_z (show x107.toInt = _ from by rw [hx107, hx106]; exact bt_an hS (by omega) hC (by omega) hx105)
          refine ex_al oq_X4_moreBy_30 g0 ?_
          refine ex_gf oq_X4_moreBy_31 hT (k := b) (d := 4) hb rfl (p1) ?_
          refine ex_ilw oq_X4_moreBy_34 g4 ?_
          refine ex_ia1 oq_X4_moreBy_36 hT (k := R1) (d := 41) (j := c) h1 rfl (by omega) (by omega) (fun x111 hx111 lx111 ux111 => ?_)
          have hx111 : x111.toInt = (dk.getD c 0) := hx111.symm.trans (d1 c (by omega))
          refine ex_il oq_X4_moreBy_37 g2 ?_
          refine ex_if oq_X4_moreBy_38 (t := 51) rfl rfl (fun (c112 : ¬ x111.toInt = k.toInt) => ?_) (fun (c112 : ¬ (¬ x111.toInt = k.toInt)) => ?_)
          · refine ex_incA oq_X4_moreBy_51 (v := C) (m := 1) g4 (by decide) (by omega) (fun L114 x113 hx113 gL114_4 kL114 => ?_)
            have gL114_0 : cv_get L114 0 = some (cv_r b) := kL114 0 _ (by decide) (fun q => absurd q (by decide)) g0
            have gL114_1 : cv_get L114 1 = some (cv_i s) := kL114 1 _ (by decide) (fun q => absurd q (by decide)) g1
            have gL114_2 : cv_get L114 2 = some (cv_i k) := kL114 2 _ (by decide) (fun q => absurd q (by decide)) g2
            have gL114_3 : cv_get L114 3 = some (cv_i M) := kL114 3 _ (by decide) (fun _ => rfl) g3
            refine ex_go oq_X4_moreBy_54 (t := 5) rfl rfl ?_
            exact ih (c + 1) M x113 L114 (by omega) (by omega) (by omega) (by unfold zMs; rw [if_neg (fun q => by have := q.2; omega)]; omega) gL114_0 gL114_1 gL114_2 gL114_3 gL114_4
          · refine ex_il oq_X4_moreBy_41 g3 ?_
            refine ex_al oq_X4_moreBy_42 g0 ?_
            refine ex_gf oq_X4_moreBy_43 hT (k := b) (d := 4) hb rfl (p2) ?_
            refine ex_ilw oq_X4_moreBy_46 g4 ?_
            refine ex_ia1 oq_X4_moreBy_48 hT (k := R2) (d := 42) (j := c) h2 rfl (by omega) (by omega) (fun x115 hx115 lx115 ux115 => ?_)
            have hx115 : x115.toInt = (dv.getD c 0) := hx115.symm.trans (d2 c (by omega))
            refine ex_add oq_X4_moreBy_49 (by omega) (fun x116 hx116 => ?_)
            refine ex_isA oq_X4_moreBy_50 (fun L117 gL117_3 kL117 => ?_)
            have gL117_0 : cv_get L117 0 = some (cv_r b) := kL117 0 _ (by decide) (fun q => absurd q (by decide)) g0
            have gL117_1 : cv_get L117 1 = some (cv_i s) := kL117 1 _ (by decide) (fun q => absurd q (by decide)) g1
            have gL117_2 : cv_get L117 2 = some (cv_i k) := kL117 2 _ (by decide) (fun _ => rfl) g2
            have gL117_4 : cv_get L117 4 = some (cv_i C) := kL117 4 _ (by decide) (fun q => absurd q (by decide)) g4
            refine ex_incA oq_X4_moreBy_51 (v := C) (m := 1) gL117_4 (by decide) (by omega) (fun L119 x118 hx118 gL119_4 kL119 => ?_)
            have gL119_3 : cv_get L119 3 = some (cv_i x116) := kL119 3 _ (by decide) (fun _ => rfl) gL117_3
            have gL119_0 : cv_get L119 0 = some (cv_r b) := kL119 0 _ (by decide) (fun q => absurd q (by decide)) gL117_0
            have gL119_1 : cv_get L119 1 = some (cv_i s) := kL119 1 _ (by decide) (fun q => absurd q (by decide)) gL117_1
            have gL119_2 : cv_get L119 2 = some (cv_i k) := kL119 2 _ (by decide) (fun q => absurd q (by decide)) gL117_2
            refine ex_go oq_X4_moreBy_54 (t := 5) rfl rfl ?_
            exact ih (c + 1) x116 x118 L119 (by omega) (by omega) (by omega) (by unfold zMs; rw [if_pos ⟨bz.2 (by omega), by omega⟩]; omega) gL119_0 gL119_1 gL119_2 gL119_3 gL119_4
theorem oq_X4_moreBy_0 : cw_ho 56 0 (.iconst 0) 1 0 0 0 := rfl
theorem oq_X4_moreBy_1 : cw_ho 56 1 (.istore_n 3) 1 0 0 0 := rfl
theorem oq_X4_moreBy_2 : cw_ho 56 2 (.iconst 0) 1 0 0 0 := rfl
theorem oq_X4_moreBy_3 : cw_ho 56 3 (.istore 4) 2 0 0 0 := rfl
theorem cg_moreBy {b R1 R2 : Nat} (hT : cw_T G h) (hb : cw_sh[b]? = some 4) (h1 : cw_sh[R1]? = some 41) (h2 : cw_sh[R2]? = some 42) (p1 : cw_at h b 17 = some (cv_r R1)) (p2 : cw_at h b 18 = some (cv_r R2)) {n : Nat} (hn : ri_at h b 19 = n) (hn6 : n ≤ 6) {dk dv : List Int} (d1 : ∀ c, c < n → ri_at h R1 c = dk.getD c 0) (d2 : ∀ c, c < n → ri_at h R2 c = dv.getD c 0) (hv : ∀ c, 0 ≤ dv.getD c 0 ∧ dv.getD c 0 ≤ 999) {s k : Int32} {S : Nat} (hS : s.toInt = S) (hS64 : S < 64) (hQ : ∀ x : Int32, x.toInt = zMs dk dv S k.toInt n → Q (some (cv_i x), h)) : cw_X X 56 Q 0 (cv_ent 0 [cv_r b, cv_i s, cv_i k]) [] h := by
  refine ex_ic oq_X4_moreBy_0 (m := 0) (by decide) (fun x101 hx101 => ?_)
  refine ex_isA oq_X4_moreBy_1 (fun L102 gL102_3 kL102 => ?_)
  have gL102_0 : cv_get L102 0 = some (cv_r b) := kL102 0 _ (by decide) (fun q => absurd q (by decide)) rfl
  have gL102_1 : cv_get L102 1 = some (cv_i s) := kL102 1 _ (by decide) (fun q => absurd q (by decide)) rfl
  have gL102_2 : cv_get L102 2 = some (cv_i k) := kL102 2 _ (by decide) (fun _ => rfl) rfl
  refine ex_ic oq_X4_moreBy_2 (m := 0) (by decide) (fun x103 hx103 => ?_)
  refine ex_iswA oq_X4_moreBy_3 (fun L104 gL104_4 kL104 => ?_)
  have gL104_3 : cv_get L104 3 = some (cv_i x101) := kL104 3 _ (by decide) (fun _ => rfl) gL102_3
  have gL104_0 : cv_get L104 0 = some (cv_r b) := kL104 0 _ (by decide) (fun q => absurd q (by decide)) gL102_0
  have gL104_1 : cv_get L104 1 = some (cv_i s) := kL104 1 _ (by decide) (fun q => absurd q (by decide)) gL102_1
  have gL104_2 : cv_get L104 2 = some (cv_i k) := kL104 2 _ (by decide) (fun q => absurd q (by decide)) gL102_2
  exact cg_mb hT hb h1 h2 p1 p2 hn hn6 d1 d2 hv hS hS64 hQ n 0 x101 x103 L104 (by omega) (by omega) (by omega) (by show _ = (0 : Int); omega) gL104_0 gL104_1 gL104_2 gL104_3 gL104_4
end GN
