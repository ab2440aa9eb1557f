/-! ===== what is kept, part by part ===== -/
section CWK
variable {G : Int} {h h' : cv_H} {m : Nat}
def pm_rows (m : Nat) (l : List Nat) : Bool := l.all (fun d => !cw_bit m d 0 && !cw_bit m d 1)
theorem pm_row {l : List Nat} (hm : pm_rows m l = true) (hF : cw_Fr cw_Ds cw_sh m h h') {k d t n : Nat} {rs : List (Int × Int)} (hd : d ∈ l) (hk : cw_sh[k]? = some d) (hD : cw_Ds[d]? = some (.inl (t, n, 1, rs))) : ∀ i, ri_at h' k i = ri_at h k i := by
  intro i
  unfold pm_rows at hm
  have := List.all_eq_true.mp hm d hd
  simp only [Bool.and_eq_true, Bool.not_eq_true'] at this
  exact ri_frr hF hk hD (by rw [this.1, this.2]; rfl)
abbrev pp_1 (h : cv_H) : Prop := ∀ i, i < 177 → ri_at h 113 i = pp_words.getD i 0
abbrev pp_3 (h : cv_H) : Prop := ∀ k, k < 128 → (ri_at h 125 k = 1 → 0 ≤ ri_at h 126 k ∧ ri_at h 126 k ≤ 9) ∧ (ri_at h 125 k ≠ 0 → ri_at h 125 k ≠ 1 → 0 ≤ ri_at h 126 k ∧ ri_at h 126 k ≤ 63) ∧ (ri_at h 125 k ≠ 0 → ri_at h 125 k ≠ 1 → ri_at h 125 k ≠ 2 → 0 ≤ ri_at h 127 k ∧ ri_at h 127 k ≤ 63)
abbrev pp_4 (h : cv_H) : Prop := ∀ l, l < 4 → ri_at h 117 l ≠ 0 → 1 ≤ ri_at h 116 l
abbrev pp_5 (G : Int) (h : cv_H) : Prop := ∀ g : Nat, g < 4 → (g : Int) < G → 24 ≤ ri_at h 119 (16 * g + 1) ∧ ri_at h 119 (16 * g + 1) ≤ 72 ∧ 1 ≤ ri_at h 119 (16 * g + 4) - ri_at h 119 (16 * g + 3) ∧ ri_at h 119 (16 * g + 4) - ri_at h 119 (16 * g + 3) ≤ 72
abbrev pp_6 (h : cv_H) : Prop := ∀ k, k < 40 → ri_at h 136 k < 0 → ri_at h 137 k < 40
abbrev pp_7 (h : cv_H) : Prop := ∀ c : Nat, c < 6 → (c : Int) < ri_at h 111 14 → 1 ≤ ri_at h 124 (3 * c) ∧ ri_at h 124 (3 * c) ≤ 99
theorem pc_1 (hm : pm_rows m [52] = true) (hP : pp_1 h) (hF : cw_Fr cw_Ds cw_sh m h h') : pp_1 h' := by
  have e_words := pm_row hm hF (k := 113) (d := 52) (by decide) rfl rfl
  unfold pp_1 at hP ⊢
  simp only [e_words]
  exact hP
theorem pc_3 (hm : pm_rows m [64, 65, 66] = true) (hP : pp_3 h) (hF : cw_Fr cw_Ds cw_sh m h h') : pp_3 h' := by
  have e_knot := pm_row hm hF (k := 125) (d := 64) (by decide) rfl rfl
  have e_part := pm_row hm hF (k := 126) (d := 65) (by decide) rfl rfl
  have e_other := pm_row hm hF (k := 127) (d := 66) (by decide) rfl rfl
  unfold pp_3 at hP ⊢
  simp only [e_knot, e_part, e_other]
  exact hP
theorem pc_4 (hm : pm_rows m [56, 55] = true) (hP : pp_4 h) (hF : cw_Fr cw_Ds cw_sh m h h') : pp_4 h' := by
  have e_lawTold := pm_row hm hF (k := 117) (d := 56) (by decide) rfl rfl
  have e_lawLast := pm_row hm hF (k := 116) (d := 55) (by decide) rfl rfl
  unfold pp_4 at hP ⊢
  simp only [e_lawTold, e_lawLast]
  exact hP
theorem pc_6 (hm : pm_rows m [75, 76] = true) (hP : pp_6 h) (hF : cw_Fr cw_Ds cw_sh m h h') : pp_6 h' := by
  have e_readGate := pm_row hm hF (k := 136) (d := 75) (by decide) rfl rfl
  have e_readWeek := pm_row hm hF (k := 137) (d := 76) (by decide) rfl rfl
  unfold pp_6 at hP ⊢
  simp only [e_readGate, e_readWeek]
  exact hP
theorem pc_2 (hm : ([6, 7, 8, 9].all (fun s => !cw_bit m 12 s)) = true) (hP : pp_tk h) (hF : cw_Fr cw_Ds cw_sh m h h') : pp_tk h' := by
  simp only [List.all_eq_true, Bool.not_eq_true'] at hm
  have e : ∀ s ∈ ([6, 7, 8, 9] : List Nat), ri_at h' 111 s = ri_at h 111 s := fun s hs => ri_frf hF (d := 12) rfl rfl (hm s hs)
  unfold pp_tk at hP ⊢
  rw [e 6 (by decide), e 7 (by decide), e 8 (by decide), e 9 (by decide)]
  exact hP
theorem pc_5 (hm : (([0, 2, 4, 5] : List Nat).all (fun s => !cw_bit m 58 s)) = true) (hP : pp_5 G h) (hF : cw_Fr cw_Ds cw_sh m h h') : pp_5 G h' := by
  simp only [List.all_eq_true, Bool.not_eq_true'] at hm
  have e_g1 : ∀ g : Nat, ri_at h' 119 (16 * g + 1) = ri_at h 119 (16 * g + 1) := fun g => ri_eq (hF.2 119 58 _ rfl (by show (cw_bit m 58 0 || cw_bit m 58 (1 + (16 * g + 1) % 16)) = false; rw [Nat.mul_add_mod, hm 0 (by decide)]; exact hm 2 (by decide)))
  have e_g3 : ∀ g : Nat, ri_at h' 119 (16 * g + 3) = ri_at h 119 (16 * g + 3) := fun g => ri_eq (hF.2 119 58 _ rfl (by show (cw_bit m 58 0 || cw_bit m 58 (1 + (16 * g + 3) % 16)) = false; rw [Nat.mul_add_mod, hm 0 (by decide)]; exact hm 4 (by decide)))
  have e_g4 : ∀ g : Nat, ri_at h' 119 (16 * g + 4) = ri_at h 119 (16 * g + 4) := fun g => ri_eq (hF.2 119 58 _ rfl (by show (cw_bit m 58 0 || cw_bit m 58 (1 + (16 * g + 4) % 16)) = false; rw [Nat.mul_add_mod, hm 0 (by decide)]; exact hm 5 (by decide)))
  unfold pp_5 at hP ⊢
  simp only [e_g1, e_g3, e_g4]
  exact hP
theorem pc_7 (hm : (!cw_bit m 63 0 && !cw_bit m 63 1 && !cw_bit m 12 14) = true) (hP : pp_7 h) (hF : cw_Fr cw_Ds cw_sh m h h') : pp_7 h' := by
  simp only [Bool.and_eq_true, Bool.not_eq_true'] at hm
  have e_c : ∀ g : Nat, ri_at h' 124 (3 * g) = ri_at h 124 (3 * g) := fun g => ri_eq (hF.2 124 63 _ rfl (by show (cw_bit m 63 0 || cw_bit m 63 (1 + (3 * g) % 3)) = false; rw [Nat.mul_mod_right, hm.1.1]; exact hm.1.2))
  have e4 : ri_at h' 111 14 = ri_at h 111 14 := ri_frf hF (d := 12) rfl rfl hm.2
  unfold pp_7 at hP ⊢
  simp only [e_c, e4]
  exact hP
end CWK
