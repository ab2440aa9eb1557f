section
/-! ===== what is kept, part by part ===== -/
section CWK
variable {G : Int} {h h' : cv_H} {m : Nat}
def pm_rows (m : Nat) (l : List Nat) : Bool := l.all (fun d => !cw_bit m d 0 && !cw_bit m d 1)
theorem pm_row {l : List Nat} (hm : pm_rows m l = true) (hF : cw_Fr cw_Ds cw_sh m h h') {k d t n : Nat} {rs : List (Int × Int)} (hd : d ∈ l) (hk : cw_sh[k]? = some d) (hD : cw_Ds[d]? = some (.inl (t, n, 1, rs))) : ∀ i, ri_at h' k i = ri_at h k i := by
  intro i
  unfold pm_rows at hm
  have := List.all_eq_true.mp hm d hd
  simp only [Bool.and_eq_true, Bool.not_eq_true'] at this
  exact ri_frr hF hk hD (by rw [this.1, this.2]; rfl)
abbrev pp_1 (h : cv_H) : Prop := ∀ i, i < 177 → ri_at h 113 i = pp_words.getD i 0
abbrev pp_3 (h : cv_H) : Prop := ∀ k, k < 128 → (ri_at h 125 k = 1 → 0 ≤ ri_at h 126 k ∧ ri_at h 126 k ≤ 9) ∧ (ri_at h 125 k ≠ 0 → ri_at h 125 k ≠ 1 → 0 ≤ ri_at h 126 k ∧ ri_at h 126 k ≤ 63) ∧ (ri_at h 125 k ≠ 0 → ri_at h 125 k ≠ 1 → ri_at h 125 k ≠ 2 → 0 ≤ ri_at h 127 k ∧ ri_at h 127 k ≤ 63)
abbrev pp_4 (h : cv_H) : Prop := ∀ l, l < 4 → ri_at h 117 l ≠ 0 → 1 ≤ ri_at h 116 l
abbrev pp_5 (G : Int) (h : cv_H) : Prop := ∀ g : Nat, g < 4 → (g : Int) < G → 24 ≤ ri_at h 119 (16 * g + 1) ∧ ri_at h 119 (16 * g + 1) ≤ 72 ∧ 1 ≤ ri_at h 119 (16 * g + 4) - ri_at h 119 (16 * g + 3) ∧ ri_at h 119 (16 * g + 4) - ri_at h 119 (16 * g + 3) ≤ 72
abbrev pp_6 (h : cv_H) : Prop := ∀ k, k < 40 → ri_at h 136 k < 0 → ri_at h 137 k < 40
abbrev pp_7 (h : cv_H) : Prop := ∀ c : Nat, c < 6 → (c : Int) < ri_at h 111 14 → 1 ≤ ri_at h 124 (3 * c) ∧ ri_at h 124 (3 * c) ≤ 99
theorem pc_1 (hm : pm_rows m [52] = true) (hP : pp_1 h) (hF : cw_Fr cw_Ds cw_sh m h h') : pp_1 h' := by
  have e_words := pm_row hm hF (k := 113) (d := 52) (by decide) rfl rfl
  unfold pp_1 at hP ⊢
  simp only [e_words]
  exact hP
theorem pc_3 (hm : pm_rows m [64, 65, 66] = true) (hP : pp_3 h) (hF : cw_Fr cw_Ds cw_sh m h h') : pp_3 h' := by
  have e_knot := pm_row hm hF (k := 125) (d := 64) (by decide) rfl rfl
  have e_part := pm_row hm hF (k := 126) (d := 65) (by decide) rfl rfl
  have e_other := pm_row hm hF (k := 127) (d := 66) (by decide) rfl rfl
  unfold pp_3 at hP ⊢
  simp only [e_knot, e_part, e_other]
  exact hP
theorem pc_4 (hm : pm_rows m [56, 55] = true) (hP : pp_4 h) (hF : cw_Fr cw_Ds cw_sh m h h') : pp_4 h' := by
  have e_lawTold := pm_row hm hF (k := 117) (d := 56) (by decide) rfl rfl
  have e_lawLast := pm_row hm hF (k := 116) (d := 55) (by decide) rfl rfl
  unfold pp_4 at hP ⊢
  simp only [e_lawTold, e_lawLast]
  exact hP
theorem pc_6 (hm : pm_rows m [75, 76] = true) (hP : pp_6 h) (hF : cw_Fr cw_Ds cw_sh m h h') : pp_6 h' := by
  have e_readGate := pm_row hm hF (k := 136) (d := 75) (by decide) rfl rfl
  have e_readWeek := pm_row hm hF (k := 137) (d := 76) (by decide) rfl rfl
  unfold pp_6 at hP ⊢
  simp only [e_readGate, e_readWeek]
  exact hP
theorem pc_2 (hm : ([6, 7, 8, 9].all (fun s => !cw_bit m 12 s)) = true) (hP : pp_tk h) (hF : cw_Fr cw_Ds cw_sh m h h') : pp_tk h' := by
  simp only [List.all_eq_true, Bool.not_eq_true'] at hm
  have e : ∀ s ∈ ([6, 7, 8, 9] : List Nat), ri_at h' 111 s = ri_at h 111 s := fun s hs => ri_frf hF (d := 12) rfl rfl (hm s hs)
  unfold pp_tk at hP ⊢
  rw [e 6 (by decide), e 7 (by decide), e 8 (by decide), e 9 (by decide)]
  exact hP
theorem pc_5 (hm : (([0, 2, 4, 5] : List Nat).all (fun s => !cw_bit m 58 s)) = true) (hP : pp_5 G h) (hF : cw_Fr cw_Ds cw_sh m h h') : pp_5 G h' := by
  simp only [List.all_eq_true, Bool.not_eq_true'] at hm
  have e_g1 : ∀ g : Nat, ri_at h' 119 (16 * g + 1) = ri_at h 119 (16 * g + 1) := fun g => ri_eq (hF.2 119 58 _ rfl (by show (cw_bit m 58 0 || cw_bit m 58 (1 + (16 * g + 1) % 16)) = false; rw [Nat.mul_add_mod, hm 0 (by decide)]; exact hm 2 (by decide)))
  have e_g3 : ∀ g : Nat, ri_at h' 119 (16 * g + 3) = ri_at h 119 (16 * g + 3) := fun g => ri_eq (hF.2 119 58 _ rfl (by show (cw_bit m 58 0 || cw_bit m 58 (1 + (16 * g + 3) % 16)) = false; rw [Nat.mul_add_mod, hm 0 (by decide)]; exact hm 4 (by decide)))
  have e_g4 : ∀ g : Nat, ri_at h' 119 (16 * g + 4) = ri_at h 119 (16 * g + 4) := fun g => ri_eq (hF.2 119 58 _ rfl (by show (cw_bit m 58 0 || cw_bit m 58 (1 + (16 * g + 4) % 16)) = false; rw [Nat.mul_add_mod, hm 0 (by decide)]; exact hm 5 (by decide)))
  unfold pp_5 at hP ⊢
  simp only [e_g1, e_g3, e_g4]
  exact hP
theorem pc_7 (hm : (!cw_bit m 63 0 && !cw_bit m 63 1 && !cw_bit m 12 14) = true) (hP : pp_7 h) (hF : cw_Fr cw_Ds cw_sh m h h') : pp_7 h' := by
  simp only [Bool.and_eq_true, Bool.not_eq_true'] at hm
  have e_c : ∀ g : Nat, ri_at h' 124 (3 * g) = ri_at h 124 (3 * g) := fun g => ri_eq (hF.2 124 63 _ rfl (by show (cw_bit m 63 0 || cw_bit m 63 (1 + (3 * g) % 3)) = false; rw [Nat.mul_mod_right, hm.1.1]; exact hm.1.2))
  have e4 : ri_at h' 111 14 = ri_at h 111 14 := ri_frf hF (d := 12) rfl rfl hm.2
  unfold pp_7 at hP ⊢
  simp only [e_c, e4]
  exact hP
end CWK
end
section
/-! ===== methods walked by hand: the small ones ===== -/
section SPA
variable {G : Int}
theorem oq_X12_isIn_0 : cw_ho 156 0 (.iload_n 0) 1 0 0 0 := rfl
theorem oq_X12_isIn_1 : cw_ho 156 1 (.iload_n 1) 1 0 0 0 := rfl
theorem oq_X12_isIn_2 : cw_ho 156 2 (.if_icmp .lt 12) 3 0 0 0 := rfl
theorem oq_X12_isIn_5 : cw_ho 156 5 (.iload_n 0) 1 0 0 0 := rfl
theorem oq_X12_isIn_6 : cw_ho 156 6 (.iload_n 2) 1 0 0 0 := rfl
theorem oq_X12_isIn_7 : cw_ho 156 7 (.if_icmp .gt 7) 3 0 0 0 := rfl
theorem oq_X12_isIn_10 : cw_ho 156 10 (.iconst 1) 1 0 0 0 := rfl
theorem oq_X12_isIn_11 : cw_ho 156 11 (.goto 4) 3 0 0 0 := rfl
theorem oq_X12_isIn_14 : cw_ho 156 14 (.iconst 0) 1 0 0 0 := rfl
theorem oq_X12_isIn_15 : cw_ho 156 15 (.ireturn) 1 0 0 0 := rfl
theorem hk_X12_isIn (P : cv_H → Prop) : cw_Holds fk_all mt_all cw_Ds cw_sh G P kk_X12_isIn := by
  refine cw_XH fun X h av hX hT hP hg hfp => ?_
  match av, hg with
  | [v0, v1, v2], ⟨⟨n0, e0, r0⟩, ⟨n1, e1, r1⟩, ⟨n2, e2, r2⟩, _⟩ =>
  subst e0 e1 e2
  refine ex_il oq_X12_isIn_0 rfl ?_
  refine ex_il oq_X12_isIn_1 rfl ?_
  refine ex_if oq_X12_isIn_2 (t := 14) rfl rfl (fun (c1 : n0.toInt < n1.toInt) => ?_) (fun (c1 : ¬ (n0.toInt < n1.toInt)) => ?_)
  · refine ex_ic oq_X12_isIn_14 (m := 0) (by decide) (fun x2 hx2 => ?_)
    refine ex_retb oq_X12_isIn_15 rfl (by omega) (by omega) ⟨⟨x2, rfl, by show (0 : Int) ≤ _; omega, by show _ ≤ (1 : Int); omega, cw_tg0⟩, ⟨hT, hP⟩, cw_Fr_refl, fun y hy hy0 => ⟨fun t ht => absurd ht List.not_mem_nil, fun t ht => ?_⟩⟩
    cases hy
    rcases List.mem_singleton.mp ht with rfl
    first | exact ⟨n0, n1, n2, rfl, rfl, rfl, by omega, by omega⟩ | (exfalso; omega)
  · refine ex_il oq_X12_isIn_5 rfl ?_
    refine ex_il oq_X12_isIn_6 rfl ?_
    refine ex_if oq_X12_isIn_7 (t := 14) rfl rfl (fun (c3 : n2.toInt < n0.toInt) => ?_) (fun (c3 : ¬ (n2.toInt < n0.toInt)) => ?_)
    · refine ex_ic oq_X12_isIn_14 (m := 0) (by decide) (fun x4 hx4 => ?_)
      refine ex_retb oq_X12_isIn_15 rfl (by omega) (by omega) ⟨⟨x4, rfl, by show (0 : Int) ≤ _; omega, by show _ ≤ (1 : Int); omega, cw_tg0⟩, ⟨hT, hP⟩, cw_Fr_refl, fun y hy hy0 => ⟨fun t ht => absurd ht List.not_mem_nil, fun t ht => ?_⟩⟩
      cases hy
      rcases List.mem_singleton.mp ht with rfl
      first | exact ⟨n0, n1, n2, rfl, rfl, rfl, by omega, by omega⟩ | (exfalso; omega)
    · refine ex_ic oq_X12_isIn_10 (m := 1) (by decide) (fun x5 hx5 => ?_)
      refine ex_go oq_X12_isIn_11 (t := 15) rfl rfl ?_
      refine ex_retb oq_X12_isIn_15 rfl (by omega) (by omega) ⟨⟨x5, rfl, by show (0 : Int) ≤ _; omega, by show _ ≤ (1 : Int); omega, cw_tg0⟩, ⟨hT, hP⟩, cw_Fr_refl, fun y hy hy0 => ⟨fun t ht => absurd ht List.not_mem_nil, fun t ht => ?_⟩⟩
      cases hy
      rcases List.mem_singleton.mp ht with rfl
      first | exact ⟨n0, n1, n2, rfl, rfl, rfl, by omega, by omega⟩ | (exfalso; omega)
theorem oq_X12_spanOf_0 : cw_ho 203 0 (.aload_n 0) 1 0 0 0 := rfl
theorem oq_X12_spanOf_1 : cw_ho 203 1 (.getfield 36) 3 12 26 4 := rfl
theorem oq_X12_spanOf_4 : cw_ho 203 4 (.bipush 16) 2 0 0 0 := rfl
theorem oq_X12_spanOf_6 : cw_ho 203 6 (.iload_n 1) 1 0 0 0 := rfl
theorem oq_X12_spanOf_7 : cw_ho 203 7 (.imul) 1 0 0 0 := rfl
theorem oq_X12_spanOf_8 : cw_ho 203 8 (.iconst 4) 1 0 0 0 := rfl
theorem oq_X12_spanOf_9 : cw_ho 203 9 (.iadd) 1 0 0 0 := rfl
theorem oq_X12_spanOf_10 : cw_ho 203 10 (.iaload) 1 0 0 0 := rfl
theorem oq_X12_spanOf_11 : cw_ho 203 11 (.aload_n 0) 1 0 0 0 := rfl
theorem oq_X12_spanOf_12 : cw_ho 203 12 (.getfield 36) 3 12 26 4 := rfl
theorem oq_X12_spanOf_15 : cw_ho 203 15 (.bipush 16) 2 0 0 0 := rfl
theorem oq_X12_spanOf_17 : cw_ho 203 17 (.iload_n 1) 1 0 0 0 := rfl
theorem oq_X12_spanOf_18 : cw_ho 203 18 (.imul) 1 0 0 0 := rfl
theorem oq_X12_spanOf_19 : cw_ho 203 19 (.iconst 3) 1 0 0 0 := rfl
theorem oq_X12_spanOf_20 : cw_ho 203 20 (.iadd) 1 0 0 0 := rfl
theorem oq_X12_spanOf_21 : cw_ho 203 21 (.iaload) 1 0 0 0 := rfl
theorem oq_X12_spanOf_22 : cw_ho 203 22 (.isub) 1 0 0 0 := rfl
theorem oq_X12_spanOf_23 : cw_ho 203 23 (.ireturn) 1 0 0 0 := rfl
theorem hk_X12_spanOf : cw_Holds fk_all mt_all cw_Ds cw_sh G (cw_PP G) kk_X12_spanOf := by
  refine cw_XH fun X h av hX hT hP hg hfp => ?_
  match av, hg with
  | [v0, v1], ⟨h0, ⟨g, e1, rg⟩, _⟩ =>
  obtain rfl : v0 = cv_r 111 := by
    rcases h0 with ⟨-, k, rfl, hk⟩ | ⟨j, hj, -⟩
    · rw [ri_uniq (d := 12) (k := 111) (by decide +kernel) k hk]
    · omega
  subst e1
  have g0 := rg.1
  have g1 := rg.2.1
  have g2 := rg.2.2.2.1 rfl
  dsimp only at g0 g1
  have hg4 := hP.2.2.2.2.1 g.toInt.toNat (by omega) (by omega)
  refine ex_al oq_X12_spanOf_0 rfl ?_
  refine ex_gf oq_X12_spanOf_1 hT (k := 111) (d := 12) rfl rfl (fr_gateHas hT) ?_
  refine ex_bi oq_X12_spanOf_4 (m := 16) (by decide) (fun x1 hx1 => ?_)
  refine ex_il oq_X12_spanOf_6 rfl ?_
  refine ex_mul oq_X12_spanOf_7 (m := 16 * g.toInt) (by rw [hx1]) (by omega) (fun x2 hx2 => ?_)
  refine ex_ic oq_X12_spanOf_8 (m := 4) (by decide) (fun x3 hx3 => ?_)
  refine ex_add oq_X12_spanOf_9 (by omega) (fun x4 hx4 => ?_)
  refine ex_iap oq_X12_spanOf_10 hT (k := 119) (d := 58) (j := 16 * g.toInt.toNat + 4) rfl rfl (by omega) (by omega) (fun x5 hx5 => ?_)
  refine ex_al oq_X12_spanOf_11 rfl ?_
  refine ex_gf oq_X12_spanOf_12 hT (k := 111) (d := 12) rfl rfl (fr_gateHas hT) ?_
  refine ex_bi oq_X12_spanOf_15 (m := 16) (by decide) (fun x6 hx6 => ?_)
  refine ex_il oq_X12_spanOf_17 rfl ?_
  refine ex_mul oq_X12_spanOf_18 (m := 16 * g.toInt) (by rw [hx6]) (by omega) (fun x7 hx7 => ?_)
  refine ex_ic oq_X12_spanOf_19 (m := 3) (by decide) (fun x8 hx8 => ?_)
  refine ex_add oq_X12_spanOf_20 (by omega) (fun x9 hx9 => ?_)
  refine ex_iap oq_X12_spanOf_21 hT (k := 119) (d := 58) (j := 16 * g.toInt.toNat + 3) rfl rfl (by omega) (by omega) (fun x10 hx10 => ?_)
  refine ex_sub oq_X12_spanOf_22 (by omega) (fun x11 hx11 => ?_)
  exact ex_reti oq_X12_spanOf_23 rfl ⟨⟨x11, rfl, by show (1 : Int) ≤ _; omega, by show _ ≤ (72 : Int); omega, cw_tg0⟩, ⟨hT, hP⟩, cw_Fr_refl, fun y hy hy0 => ⟨fun t ht => absurd ht List.not_mem_nil, fun t ht => absurd ht List.not_mem_nil⟩⟩
theorem oq_X12_partOf_0 : cw_ho 205 0 (.aload_n 0) 1 0 0 0 := rfl
theorem oq_X12_partOf_1 : cw_ho 205 1 (.getfield 36) 3 12 26 4 := rfl
theorem oq_X12_partOf_4 : cw_ho 205 4 (.bipush 16) 2 0 0 0 := rfl
theorem oq_X12_partOf_6 : cw_ho 205 6 (.iload_n 1) 1 0 0 0 := rfl
theorem oq_X12_partOf_7 : cw_ho 205 7 (.imul) 1 0 0 0 := rfl
theorem oq_X12_partOf_8 : cw_ho 205 8 (.iaload) 1 0 0 0 := rfl
theorem oq_X12_partOf_9 : cw_ho 205 9 (.i2l) 1 0 0 0 := rfl
theorem oq_X12_partOf_10 : cw_ho 205 10 (.lstore_n 3) 1 0 0 0 := rfl
theorem oq_X12_partOf_11 : cw_ho 205 11 (.iload_n 2) 1 0 0 0 := rfl
theorem oq_X12_partOf_12 : cw_ho 205 12 (.ifCond .ne 28) 3 0 0 0 := rfl
theorem oq_X12_partOf_15 : cw_ho 205 15 (.aload_n 0) 1 0 0 0 := rfl
theorem oq_X12_partOf_16 : cw_ho 205 16 (.getfield 72) 3 12 45 4 := rfl
theorem oq_X12_partOf_19 : cw_ho 205 19 (.iconst 0) 1 0 0 0 := rfl
theorem oq_X12_partOf_20 : cw_ho 205 20 (.iaload) 1 0 0 0 := rfl
theorem oq_X12_partOf_21 : cw_ho 205 21 (.i2l) 1 0 0 0 := rfl
theorem oq_X12_partOf_22 : cw_ho 205 22 (.lload_n 3) 1 0 0 0 := rfl
theorem oq_X12_partOf_23 : cw_ho 205 23 (.lmul) 1 0 0 0 := rfl
theorem oq_X12_partOf_24 : cw_ho 205 24 (.aload_n 0) 1 0 0 0 := rfl
theorem oq_X12_partOf_25 : cw_ho 205 25 (.getfield 36) 3 12 26 4 := rfl
theorem oq_X12_partOf_28 : cw_ho 205 28 (.bipush 16) 2 0 0 0 := rfl
theorem oq_X12_partOf_30 : cw_ho 205 30 (.iload_n 1) 1 0 0 0 := rfl
theorem oq_X12_partOf_31 : cw_ho 205 31 (.imul) 1 0 0 0 := rfl
theorem oq_X12_partOf_32 : cw_ho 205 32 (.iconst 1) 1 0 0 0 := rfl
theorem oq_X12_partOf_33 : cw_ho 205 33 (.iadd) 1 0 0 0 := rfl
theorem oq_X12_partOf_34 : cw_ho 205 34 (.iaload) 1 0 0 0 := rfl
theorem oq_X12_partOf_35 : cw_ho 205 35 (.i2l) 1 0 0 0 := rfl
theorem oq_X12_partOf_36 : cw_ho 205 36 (.ldiv) 1 0 0 0 := rfl
theorem oq_X12_partOf_37 : cw_ho 205 37 (.goto 34) 3 0 0 0 := rfl
theorem oq_X12_partOf_40 : cw_ho 205 40 (.iload_n 2) 1 0 0 0 := rfl
theorem oq_X12_partOf_41 : cw_ho 205 41 (.iconst 1) 1 0 0 0 := rfl
theorem oq_X12_partOf_42 : cw_ho 205 42 (.if_icmp .ne 13) 3 0 0 0 := rfl
theorem oq_X12_partOf_45 : cw_ho 205 45 (.aload_n 0) 1 0 0 0 := rfl
theorem oq_X12_partOf_46 : cw_ho 205 46 (.getfield 72) 3 12 45 4 := rfl
theorem oq_X12_partOf_49 : cw_ho 205 49 (.iconst 1) 1 0 0 0 := rfl
theorem oq_X12_partOf_50 : cw_ho 205 50 (.iaload) 1 0 0 0 := rfl
theorem oq_X12_partOf_51 : cw_ho 205 51 (.i2l) 1 0 0 0 := rfl
theorem oq_X12_partOf_52 : cw_ho 205 52 (.goto 19) 3 0 0 0 := rfl
theorem oq_X12_partOf_55 : cw_ho 205 55 (.aload_n 0) 1 0 0 0 := rfl
theorem oq_X12_partOf_56 : cw_ho 205 56 (.getfield 72) 3 12 45 4 := rfl
theorem oq_X12_partOf_59 : cw_ho 205 59 (.iconst 2) 1 0 0 0 := rfl
theorem oq_X12_partOf_60 : cw_ho 205 60 (.iaload) 1 0 0 0 := rfl
theorem oq_X12_partOf_61 : cw_ho 205 61 (.i2l) 1 0 0 0 := rfl
theorem oq_X12_partOf_62 : cw_ho 205 62 (.lload_n 3) 1 0 0 0 := rfl
theorem oq_X12_partOf_63 : cw_ho 205 63 (.lmul) 1 0 0 0 := rfl
theorem oq_X12_partOf_64 : cw_ho 205 64 (.aload_n 0) 1 0 0 0 := rfl
theorem oq_X12_partOf_65 : cw_ho 205 65 (.iload_n 1) 1 0 0 0 := rfl
theorem oq_X12_partOf_66 : cw_ho 205 66 (.invokevirtual 355) 3 203 1 12 := rfl
theorem oq_X12_partOf_69 : cw_ho 205 69 (.i2l) 1 0 0 0 := rfl
theorem oq_X12_partOf_70 : cw_ho 205 70 (.ldiv) 1 0 0 0 := rfl
theorem oq_X12_partOf_71 : cw_ho 205 71 (.l2i) 1 0 0 0 := rfl
theorem oq_X12_partOf_72 : cw_ho 205 72 (.ireturn) 1 0 0 0 := rfl
theorem hk_X12_partOf : cw_Holds fk_all mt_all cw_Ds cw_sh G (cw_PP G) kk_X12_partOf := by
  refine cw_XH fun X h av hX hT hP hg hfp => ?_
  match av, hg with
  | [v0, v1, v2], ⟨h0, ⟨g, e1, rg⟩, ⟨w, e2, rw2⟩, _⟩ =>
  obtain rfl : v0 = cv_r 111 := by
    rcases h0 with ⟨-, k, rfl, hk⟩ | ⟨j, hj, -⟩
    · rw [ri_uniq (d := 12) (k := 111) (by decide +kernel) k hk]
    · omega
  subst e1 e2
  have g0 := rg.1
  have g1 := rg.2.1
  have g2 := rg.2.2.2.1 rfl
  dsimp only at g0 g1
  have hg4 := hP.2.2.2.2.1 g.toInt.toNat (by omega) (by omega)
  refine ex_al oq_X12_partOf_0 rfl ?_
  refine ex_gf oq_X12_partOf_1 hT (k := 111) (d := 12) rfl rfl (fr_gateHas hT) ?_
  refine ex_bi oq_X12_partOf_4 (m := 16) (by decide) (fun x1 hx1 => ?_)
  refine ex_il oq_X12_partOf_6 rfl ?_
  refine ex_mul oq_X12_partOf_7 (m := 16 * g.toInt) (by rw [hx1]) (by omega) (fun x2 hx2 => ?_)
  refine ex_iap oq_X12_partOf_8 hT (k := 119) (d := 58) (j := 16 * g.toInt.toNat) rfl rfl (by omega) (by omega) (fun x3 hx3 => ?_)
  refine ex_i2l oq_X12_partOf_9 (fun x4 hx4 => ?_)
  refine ex_lsA oq_X12_partOf_10 (fun L5 gL5_3 kL5 => ?_)
  have gL5_0 : cv_get L5 0 = some (cv_r 111) := kL5 0 _ (by decide) (by decide) (fun q => absurd q (by decide)) rfl
  have gL5_1 : cv_get L5 1 = some (cv_i g) := kL5 1 _ (by decide) (by decide) (fun q => absurd q (by decide)) rfl
  have gL5_2 : cv_get L5 2 = some (cv_i w) := kL5 2 _ (by decide) (by decide) (fun _ => rfl) rfl
  refine ex_il oq_X12_partOf_11 gL5_2 ?_
  refine ex_if0 oq_X12_partOf_12 (t := 40) rfl rfl (fun (c6 : ¬ w.toInt = 0) => ?_) (fun (c6 : ¬ (¬ w.toInt = 0)) => ?_)
  · refine ex_il oq_X12_partOf_40 gL5_2 ?_
    refine ex_ic oq_X12_partOf_41 (m := 1) (by decide) (fun x7 hx7 => ?_)
    refine ex_if oq_X12_partOf_42 (t := 55) rfl rfl (fun (c8 : ¬ w.toInt = x7.toInt) => ?_) (fun (c8 : ¬ (¬ w.toInt = x7.toInt)) => ?_)
    · refine ex_al oq_X12_partOf_55 gL5_0 ?_
      refine ex_gf oq_X12_partOf_56 hT (k := 111) (d := 12) rfl rfl (fr_now hT) ?_
      refine ex_ic oq_X12_partOf_59 (m := 2) (by decide) (fun x9 hx9 => ?_)
      refine ex_ia1 oq_X12_partOf_60 hT (k := 131) (d := 70) (j := x9.toInt.toNat) rfl rfl (by omega) (by omega) (fun x10 hx10 lx10 ux10 => ?_)
      refine ex_i2l oq_X12_partOf_61 (fun x11 hx11 => ?_)
      refine ex_ll oq_X12_partOf_62 gL5_3 ?_
      refine ex_lmul oq_X12_partOf_63 (fun x12 => ?_)
      refine ex_al oq_X12_partOf_64 gL5_0 ?_
      refine ex_il oq_X12_partOf_65 gL5_1 ?_
      refine ex_cv oq_X12_partOf_66 (by decide) hT (k := 111) (d := 12) (as := [cv_i g]) (stk := [cv_l x12]) rfl rfl rfl rfl rfl rfl ⟨rfl, rfl⟩ (cw_HX hk_X12_spanOf rfl (cw_Xok_no2 hX) ⟨hT, hP⟩ ⟨.inl ⟨by decide, 111, rfl, rfl⟩, ⟨_, rfl, rg⟩, trivial⟩ (fun t ht => absurd ht List.not_mem_nil)) (fun ox14 hox14 => ?_)
      obtain ⟨x14, h13, rfl, rx14, Th13, Ph13, Ch13, tx14⟩ := po_int hox14 rfl
      have lx14 := rx14.1
      have ux14 := rx14.2.1
      try dsimp only at lx14 ux14
      show cw_X _ _ _ _ _ [cv_i x14, cv_l x12] h13
      have hg4h13 := Ph13.2.2.2.2.1 g.toInt.toNat (by omega) (by omega)
      refine ex_i2l oq_X12_partOf_69 (fun x15 hx15 => ?_)
      refine ex_ldiv oq_X12_partOf_70 (by omega) (fun x16 => ?_)
      refine ex_l2i oq_X12_partOf_71 (fun x17 => ?_)
      exact ex_reti oq_X12_partOf_72 rfl ⟨⟨x17, rfl, cw_top_ok _⟩, ⟨Th13, Ph13⟩, Ch13, fun y hy hy0 => ⟨fun t ht => absurd ht List.not_mem_nil, fun t ht => absurd ht List.not_mem_nil⟩⟩
    · refine ex_al oq_X12_partOf_45 gL5_0 ?_
      refine ex_gf oq_X12_partOf_46 hT (k := 111) (d := 12) rfl rfl (fr_now hT) ?_
      refine ex_ic oq_X12_partOf_49 (m := 1) (by decide) (fun x18 hx18 => ?_)
      refine ex_ia1 oq_X12_partOf_50 hT (k := 131) (d := 70) (j := x18.toInt.toNat) rfl rfl (by omega) (by omega) (fun x19 hx19 lx19 ux19 => ?_)
      refine ex_i2l oq_X12_partOf_51 (fun x20 hx20 => ?_)
      refine ex_go oq_X12_partOf_52 (t := 71) rfl rfl ?_
      refine ex_l2i oq_X12_partOf_71 (fun x21 => ?_)
      exact ex_reti oq_X12_partOf_72 rfl ⟨⟨x21, rfl, cw_top_ok _⟩, ⟨hT, hP⟩, cw_Fr_refl, fun y hy hy0 => ⟨fun t ht => absurd ht List.not_mem_nil, fun t ht => absurd ht List.not_mem_nil⟩⟩
  · refine ex_al oq_X12_partOf_15 gL5_0 ?_
    refine ex_gf oq_X12_partOf_16 hT (k := 111) (d := 12) rfl rfl (fr_now hT) ?_
    refine ex_ic oq_X12_partOf_19 (m := 0) (by decide) (fun x22 hx22 => ?_)
    refine ex_ia1 oq_X12_partOf_20 hT (k := 131) (d := 70) (j := x22.toInt.toNat) rfl rfl (by omega) (by omega) (fun x23 hx23 lx23 ux23 => ?_)
    refine ex_i2l oq_X12_partOf_21 (fun x24 hx24 => ?_)
    refine ex_ll oq_X12_partOf_22 gL5_3 ?_
    refine ex_lmul oq_X12_partOf_23 (fun x25 => ?_)
    refine ex_al oq_X12_partOf_24 gL5_0 ?_
    refine ex_gf oq_X12_partOf_25 hT (k := 111) (d := 12) rfl rfl (fr_gateHas hT) ?_
    refine ex_bi oq_X12_partOf_28 (m := 16) (by decide) (fun x26 hx26 => ?_)
    refine ex_il oq_X12_partOf_30 gL5_1 ?_
    refine ex_mul oq_X12_partOf_31 (m := 16 * g.toInt) (by rw [hx26]) (by omega) (fun x27 hx27 => ?_)
    refine ex_ic oq_X12_partOf_32 (m := 1) (by decide) (fun x28 hx28 => ?_)
    refine ex_add oq_X12_partOf_33 (by omega) (fun x29 hx29 => ?_)
    refine ex_iap oq_X12_partOf_34 hT (k := 119) (d := 58) (j := 16 * g.toInt.toNat + 1) rfl rfl (by omega) (by omega) (fun x30 hx30 => ?_)
    refine ex_i2l oq_X12_partOf_35 (fun x31 hx31 => ?_)
    refine ex_ldiv oq_X12_partOf_36 (by omega) (fun x32 => ?_)
    refine ex_go oq_X12_partOf_37 (t := 71) rfl rfl ?_
    refine ex_l2i oq_X12_partOf_71 (fun x33 => ?_)
    exact ex_reti oq_X12_partOf_72 rfl ⟨⟨x33, rfl, cw_top_ok _⟩, ⟨hT, hP⟩, cw_Fr_refl, fun y hy hy0 => ⟨fun t ht => absurd ht List.not_mem_nil, fun t ht => absurd ht List.not_mem_nil⟩⟩
theorem oq_X12_lowOf_0 : cw_ho 254 0 (.bipush 100) 2 0 0 0 := rfl
theorem oq_X12_lowOf_2 : cw_ho 254 2 (.aload_n 0) 1 0 0 0 := rfl
theorem oq_X12_lowOf_3 : cw_ho 254 3 (.getfield 36) 3 12 26 4 := rfl
theorem oq_X12_lowOf_6 : cw_ho 254 6 (.bipush 16) 2 0 0 0 := rfl
theorem oq_X12_lowOf_8 : cw_ho 254 8 (.iload_n 1) 1 0 0 0 := rfl
theorem oq_X12_lowOf_9 : cw_ho 254 9 (.imul) 1 0 0 0 := rfl
theorem oq_X12_lowOf_10 : cw_ho 254 10 (.iconst 5) 1 0 0 0 := rfl
theorem oq_X12_lowOf_11 : cw_ho 254 11 (.iadd) 1 0 0 0 := rfl
theorem oq_X12_lowOf_12 : cw_ho 254 12 (.iaload) 1 0 0 0 := rfl
theorem oq_X12_lowOf_13 : cw_ho 254 13 (.imul) 1 0 0 0 := rfl
theorem oq_X12_lowOf_14 : cw_ho 254 14 (.aload_n 0) 1 0 0 0 := rfl
theorem oq_X12_lowOf_15 : cw_ho 254 15 (.getfield 72) 3 12 45 4 := rfl
theorem oq_X12_lowOf_18 : cw_ho 254 18 (.iconst 0) 1 0 0 0 := rfl
theorem oq_X12_lowOf_19 : cw_ho 254 19 (.iaload) 1 0 0 0 := rfl
theorem oq_X12_lowOf_20 : cw_ho 254 20 (.i2l) 1 0 0 0 := rfl
theorem oq_X12_lowOf_21 : cw_ho 254 21 (.aload_n 0) 1 0 0 0 := rfl
theorem oq_X12_lowOf_22 : cw_ho 254 22 (.iload_n 1) 1 0 0 0 := rfl
theorem oq_X12_lowOf_23 : cw_ho 254 23 (.invokevirtual 355) 3 203 1 12 := rfl
theorem oq_X12_lowOf_26 : cw_ho 254 26 (.i2l) 1 0 0 0 := rfl
theorem oq_X12_lowOf_27 : cw_ho 254 27 (.lmul) 1 0 0 0 := rfl
theorem oq_X12_lowOf_28 : cw_ho 254 28 (.aload_n 0) 1 0 0 0 := rfl
theorem oq_X12_lowOf_29 : cw_ho 254 29 (.getfield 36) 3 12 26 4 := rfl
theorem oq_X12_lowOf_32 : cw_ho 254 32 (.bipush 16) 2 0 0 0 := rfl
theorem oq_X12_lowOf_34 : cw_ho 254 34 (.iload_n 1) 1 0 0 0 := rfl
theorem oq_X12_lowOf_35 : cw_ho 254 35 (.imul) 1 0 0 0 := rfl
theorem oq_X12_lowOf_36 : cw_ho 254 36 (.iconst 1) 1 0 0 0 := rfl
theorem oq_X12_lowOf_37 : cw_ho 254 37 (.iadd) 1 0 0 0 := rfl
theorem oq_X12_lowOf_38 : cw_ho 254 38 (.iaload) 1 0 0 0 := rfl
theorem oq_X12_lowOf_39 : cw_ho 254 39 (.i2l) 1 0 0 0 := rfl
theorem oq_X12_lowOf_40 : cw_ho 254 40 (.ldiv) 1 0 0 0 := rfl
theorem oq_X12_lowOf_41 : cw_ho 254 41 (.l2i) 1 0 0 0 := rfl
theorem oq_X12_lowOf_42 : cw_ho 254 42 (.iadd) 1 0 0 0 := rfl
theorem oq_X12_lowOf_43 : cw_ho 254 43 (.istore_n 3) 1 0 0 0 := rfl
theorem oq_X12_lowOf_44 : cw_ho 254 44 (.bipush 100) 2 0 0 0 := rfl
theorem oq_X12_lowOf_46 : cw_ho 254 46 (.aload_n 0) 1 0 0 0 := rfl
theorem oq_X12_lowOf_47 : cw_ho 254 47 (.getfield 36) 3 12 26 4 := rfl
theorem oq_X12_lowOf_50 : cw_ho 254 50 (.bipush 16) 2 0 0 0 := rfl
theorem oq_X12_lowOf_52 : cw_ho 254 52 (.iload_n 1) 1 0 0 0 := rfl
theorem oq_X12_lowOf_53 : cw_ho 254 53 (.imul) 1 0 0 0 := rfl
theorem oq_X12_lowOf_54 : cw_ho 254 54 (.bipush 6) 2 0 0 0 := rfl
theorem oq_X12_lowOf_56 : cw_ho 254 56 (.iadd) 1 0 0 0 := rfl
theorem oq_X12_lowOf_57 : cw_ho 254 57 (.iaload) 1 0 0 0 := rfl
theorem oq_X12_lowOf_58 : cw_ho 254 58 (.imul) 1 0 0 0 := rfl
theorem oq_X12_lowOf_59 : cw_ho 254 59 (.istore 4) 2 0 0 0 := rfl
theorem oq_X12_lowOf_61 : cw_ho 254 61 (.iload_n 3) 1 0 0 0 := rfl
theorem oq_X12_lowOf_62 : cw_ho 254 62 (.aload_n 0) 1 0 0 0 := rfl
theorem oq_X12_lowOf_63 : cw_ho 254 63 (.getfield 112) 3 12 61 4 := rfl
theorem oq_X12_lowOf_66 : cw_ho 254 66 (.iload_n 2) 1 0 0 0 := rfl
theorem oq_X12_lowOf_67 : cw_ho 254 67 (.iaload) 1 0 0 0 := rfl
theorem oq_X12_lowOf_68 : cw_ho 254 68 (.imul) 1 0 0 0 := rfl
theorem oq_X12_lowOf_69 : cw_ho 254 69 (.iload 4) 2 0 0 0 := rfl
theorem oq_X12_lowOf_71 : cw_ho 254 71 (.aload_n 0) 1 0 0 0 := rfl
theorem oq_X12_lowOf_72 : cw_ho 254 72 (.getfield 115) 3 12 62 4 := rfl
theorem oq_X12_lowOf_75 : cw_ho 254 75 (.iload_n 2) 1 0 0 0 := rfl
theorem oq_X12_lowOf_76 : cw_ho 254 76 (.iaload) 1 0 0 0 := rfl
theorem oq_X12_lowOf_77 : cw_ho 254 77 (.imul) 1 0 0 0 := rfl
theorem oq_X12_lowOf_78 : cw_ho 254 78 (.iadd) 1 0 0 0 := rfl
theorem oq_X12_lowOf_79 : cw_ho 254 79 (.ireturn) 1 0 0 0 := rfl
theorem hk_X12_lowOf : cw_Holds fk_all mt_all cw_Ds cw_sh G (cw_PP G) kk_X12_lowOf := by
  refine cw_XH fun X h av hX hT hP hg hfp => ?_
  match av, hg with
  | [v0, v1, v2], ⟨h0, ⟨g, e1, rg⟩, ⟨w, e2, rw2⟩, _⟩ =>
  obtain rfl : v0 = cv_r 111 := by
    rcases h0 with ⟨-, k, rfl, hk⟩ | ⟨j, hj, -⟩
    · rw [ri_uniq (d := 12) (k := 111) (by decide +kernel) k hk]
    · omega
  subst e1 e2
  have g0 := rg.1
  have g1 := rg.2.1
  have g2 := rg.2.2.2.1 rfl
  dsimp only at g0 g1
  have hg4 := hP.2.2.2.2.1 g.toInt.toNat (by omega) (by omega)
  have w0 := rw2.1
  have w1 := rw2.2.1
  dsimp only at w0 w1
  refine ex_bi oq_X12_lowOf_0 (m := 100) (by decide) (fun x1 hx1 => ?_)
  refine ex_al oq_X12_lowOf_2 rfl ?_
  refine ex_gf oq_X12_lowOf_3 hT (k := 111) (d := 12) rfl rfl (fr_gateHas hT) ?_
  refine ex_bi oq_X12_lowOf_6 (m := 16) (by decide) (fun x2 hx2 => ?_)
  refine ex_il oq_X12_lowOf_8 rfl ?_
  refine ex_mul oq_X12_lowOf_9 (m := 16 * g.toInt) (by rw [hx2]) (by omega) (fun x3 hx3 => ?_)
  refine ex_ic oq_X12_lowOf_10 (m := 5) (by decide) (fun x4 hx4 => ?_)
  refine ex_add oq_X12_lowOf_11 (by omega) (fun x5 hx5 => ?_)
  refine ex_iap oq_X12_lowOf_12 hT (k := 119) (d := 58) (j := 16 * g.toInt.toNat + 5) rfl rfl (by omega) (by omega) (fun x6 hx6 => ?_)
  refine ex_any (f := fun x y => some x) oq_X12_lowOf_13 rfl (fun x7 => ?_)
  refine ex_al oq_X12_lowOf_14 rfl ?_
  refine ex_gf oq_X12_lowOf_15 hT (k := 111) (d := 12) rfl rfl (fr_now hT) ?_
  refine ex_ic oq_X12_lowOf_18 (m := 0) (by decide) (fun x8 hx8 => ?_)
  refine ex_ia1 oq_X12_lowOf_19 hT (k := 131) (d := 70) (j := x8.toInt.toNat) rfl rfl (by omega) (by omega) (fun x9 hx9 lx9 ux9 => ?_)
  refine ex_i2l oq_X12_lowOf_20 (fun x10 hx10 => ?_)
  refine ex_al oq_X12_lowOf_21 rfl ?_
  refine ex_il oq_X12_lowOf_22 rfl ?_
  refine ex_cv oq_X12_lowOf_23 (by decide) hT (k := 111) (d := 12) (as := [cv_i g]) (stk := [cv_l x10, cv_i x7]) rfl rfl rfl rfl rfl rfl ⟨rfl, rfl⟩ (cw_HX hk_X12_spanOf rfl (cw_Xok_no2 hX) ⟨hT, hP⟩ ⟨.inl ⟨by decide, 111, rfl, rfl⟩, ⟨_, rfl, rg⟩, trivial⟩ (fun t ht => absurd ht List.not_mem_nil)) (fun ox12 hox12 => ?_)
  obtain ⟨x12, h11, rfl, rx12, Th11, Ph11, Ch11, tx12⟩ := po_int hox12 rfl
  have lx12 := rx12.1
  have ux12 := rx12.2.1
  try dsimp only at lx12 ux12
  show cw_X _ _ _ _ _ [cv_i x12, cv_l x10, cv_i x7] h11
  have hg4h11 := Ph11.2.2.2.2.1 g.toInt.toNat (by omega) (by omega)
  refine ex_i2l oq_X12_lowOf_26 (fun x13 hx13 => ?_)
  refine ex_lmul oq_X12_lowOf_27 (fun x14 => ?_)
  refine ex_al oq_X12_lowOf_28 rfl ?_
  refine ex_gf oq_X12_lowOf_29 Th11 (k := 111) (d := 12) rfl rfl (fr_gateHas Th11) ?_
  refine ex_bi oq_X12_lowOf_32 (m := 16) (by decide) (fun x15 hx15 => ?_)
  refine ex_il oq_X12_lowOf_34 rfl ?_
  refine ex_mul oq_X12_lowOf_35 (m := 16 * g.toInt) (by rw [hx15]) (by omega) (fun x16 hx16 => ?_)
  refine ex_ic oq_X12_lowOf_36 (m := 1) (by decide) (fun x17 hx17 => ?_)
  refine ex_add oq_X12_lowOf_37 (by omega) (fun x18 hx18 => ?_)
  refine ex_iap oq_X12_lowOf_38 Th11 (k := 119) (d := 58) (j := 16 * g.toInt.toNat + 1) rfl rfl (by omega) (by omega) (fun x19 hx19 => ?_)
  refine ex_i2l oq_X12_lowOf_39 (fun x20 hx20 => ?_)
  refine ex_ldiv oq_X12_lowOf_40 (by omega) (fun x21 => ?_)
  refine ex_l2i oq_X12_lowOf_41 (fun x22 => ?_)
  refine ex_any (f := fun x y => some x) oq_X12_lowOf_42 rfl (fun x23 => ?_)
  refine ex_isA oq_X12_lowOf_43 (fun L24 gL24_3 kL24 => ?_)
  have gL24_0 : cv_get L24 0 = some (cv_r 111) := kL24 0 _ (by decide) (fun q => absurd q (by decide)) rfl
  have gL24_1 : cv_get L24 1 = some (cv_i g) := kL24 1 _ (by decide) (fun q => absurd q (by decide)) rfl
  have gL24_2 : cv_get L24 2 = some (cv_i w) := kL24 2 _ (by decide) (fun _ => rfl) rfl
  refine ex_bi oq_X12_lowOf_44 (m := 100) (by decide) (fun x25 hx25 => ?_)
  refine ex_al oq_X12_lowOf_46 gL24_0 ?_
  refine ex_gf oq_X12_lowOf_47 Th11 (k := 111) (d := 12) rfl rfl (fr_gateHas Th11) ?_
  refine ex_bi oq_X12_lowOf_50 (m := 16) (by decide) (fun x26 hx26 => ?_)
  refine ex_il oq_X12_lowOf_52 gL24_1 ?_
  refine ex_mul oq_X12_lowOf_53 (m := 16 * g.toInt) (by rw [hx26]) (by omega) (fun x27 hx27 => ?_)
  refine ex_bi oq_X12_lowOf_54 (m := 6) (by decide) (fun x28 hx28 => ?_)
  refine ex_add oq_X12_lowOf_56 (by omega) (fun x29 hx29 => ?_)
  refine ex_iap oq_X12_lowOf_57 Th11 (k := 119) (d := 58) (j := 16 * g.toInt.toNat + 6) rfl rfl (by omega) (by omega) (fun x30 hx30 => ?_)
  refine ex_any (f := fun x y => some x) oq_X12_lowOf_58 rfl (fun x31 => ?_)
  refine ex_iswA oq_X12_lowOf_59 (fun L32 gL32_4 kL32 => ?_)
  have gL32_3 : cv_get L32 3 = some (cv_i x23) := kL32 3 _ (by decide) (fun _ => rfl) gL24_3
  have gL32_0 : cv_get L32 0 = some (cv_r 111) := kL32 0 _ (by decide) (fun q => absurd q (by decide)) gL24_0
  have gL32_1 : cv_get L32 1 = some (cv_i g) := kL32 1 _ (by decide) (fun q => absurd q (by decide)) gL24_1
  have gL32_2 : cv_get L32 2 = some (cv_i w) := kL32 2 _ (by decide) (fun q => absurd q (by decide)) gL24_2
  refine ex_il oq_X12_lowOf_61 gL32_3 ?_
  refine ex_al oq_X12_lowOf_62 gL32_0 ?_
  refine ex_gf oq_X12_lowOf_63 Th11 (k := 111) (d := 12) rfl rfl (fr_cosines Th11) ?_
  refine ex_il oq_X12_lowOf_66 gL32_2 ?_
  refine ex_ia1 oq_X12_lowOf_67 Th11 (k := 143) (d := 82) (j := w.toInt.toNat) rfl rfl (by omega) (by omega) (fun x33 hx33 lx33 ux33 => ?_)
  refine ex_any (f := fun x y => some x) oq_X12_lowOf_68 rfl (fun x34 => ?_)
  refine ex_ilw oq_X12_lowOf_69 gL32_4 ?_
  refine ex_al oq_X12_lowOf_71 gL32_0 ?_
  refine ex_gf oq_X12_lowOf_72 Th11 (k := 111) (d := 12) rfl rfl (fr_sines Th11) ?_
  refine ex_il oq_X12_lowOf_75 gL32_2 ?_
  refine ex_ia1 oq_X12_lowOf_76 Th11 (k := 144) (d := 83) (j := w.toInt.toNat) rfl rfl (by omega) (by omega) (fun x35 hx35 lx35 ux35 => ?_)
  refine ex_any (f := fun x y => some x) oq_X12_lowOf_77 rfl (fun x36 => ?_)
  refine ex_any (f := fun x y => some x) oq_X12_lowOf_78 rfl (fun x37 => ?_)
  exact ex_reti oq_X12_lowOf_79 rfl ⟨⟨x37, rfl, cw_top_ok _⟩, ⟨Th11, Ph11⟩, Ch11, fun y hy hy0 => ⟨fun t ht => absurd ht List.not_mem_nil, fun t ht => absurd ht List.not_mem_nil⟩⟩
end SPA
end
