/-! ===== reading goes on: what is kept besides ===== -/
def cw_PQ (G c kd s : Int) (h : cv_H) : Prop := cw_PP G h ∧ c ≤ ri_at h 111 7 ∧ (ri_at h 111 7 = c → ri_at h 111 8 = kd ∨ ri_at h 111 8 = 0) ∧ ri_at h 111 6 = s
theorem cw_PQok (G c kd s : Int) : cw_Pok cw_Ds cw_sh cw_dp (cw_PQ G c kd s) := by
  intro h h' hP he
  have e : ∀ i : Nat, cw_prot cw_Ds cw_dp 12 i = true → ri_at h' 111 i = ri_at h 111 i := fun i h2 => ri_eq (he 111 12 i rfl h2)
  have e6 := e 6 (by decide +kernel)
  have e7 := e 7 (by decide +kernel)
  have e8 := e 8 (by decide +kernel)
  refine ⟨cw_PPok G h h' hP.1 he, ?_⟩
  rw [e6, e7, e8]
  exact hP.2
theorem pq_fr {G c kd s : Int} {h h' : cv_H} {m : Nat} (hm : (pp_msk0 m) = true) (hP : cw_PQ G c kd s h) (hF : cw_Fr cw_Ds cw_sh m h h') : cw_PQ G c kd s h' := by
  have hm2 := hm
  unfold pp_msk0 at hm2
  simp only [Bool.and_eq_true, List.all_eq_true, Bool.not_eq_true'] at hm2
  have e : ∀ t ∈ ([6, 7, 8, 9] : List Nat), ri_at h' 111 t = ri_at h 111 t := fun t ht => ri_frf hF (d := 12) rfl rfl (hm2.2 t ht)
  refine ⟨pp_fr0 hm hP.1 hF, ?_⟩
  rw [e 6 (by decide), e 7 (by decide), e 8 (by decide)]
  exact hP.2
section SPQ
variable {G c kd s : Int}
set_option maxRecDepth 10000
theorem hq_X12_isIn : cw_Holds fk_all mt_all cw_Ds cw_sh G (cw_PQ G c kd s) kk_X12_isIn := hk_X12_isIn _
theorem hq_X12_token : cw_Holds fk_all mt_all cw_Ds cw_sh G (cw_PQ G c kd s) kk_X12_token := by
  refine cw_XH fun X h av hX hT hP hg hfp => ?_
  match av, hg with
  | [v0], ⟨h0, _⟩ =>
  obtain rfl : v0 = cv_r 111 := by
    rcases h0 with ⟨-, k, rfl, hk⟩ | ⟨j, hj, -⟩
    · rw [ri_uniq (d := 12) (k := 111) (by decide +kernel) k hk]
    · omega
  obtain ⟨hP, h1, h2, h3⟩ := hP
  refine sp_token hX hz_X12_packed hT hP (fun h' a1 a2 a3 a4 a5 a6 => ?_)
  have pq : cw_PQ G c kd s h' := ⟨a3, by omega, fun q => by right; omega, by omega⟩
  exact ⟨trivial, ⟨a1, pq⟩, a2, fun y hy _ => by cases hy⟩
theorem hq_X12_isOf : cw_Holds fk_all mt_all cw_Ds cw_sh G (cw_PQ G c kd s) kk_X12_isOf := cw_sound (cw_PQok G c kd s) cw_dpok_all (by decide) (M := mt_X12_isOf) rfl cw_kn ck_X12_isOf
theorem hq_X12_wrong : cw_Holds fk_all mt_all cw_Ds cw_sh G (cw_PQ G c kd s) kk_X12_wrong := cw_sound (cw_PQok G c kd s) cw_dpok_all (by decide) (M := mt_X12_wrong) rfl cw_kn ck_X12_wrong
theorem hq_X12_isKey : cw_Holds fk_all mt_all cw_Ds cw_sh G (cw_PQ G c kd s) kk_X12_isKey := cw_sound (cw_PQok G c kd s) cw_dpok_all (by decide) (M := mt_X12_isKey) rfl cw_kn ck_X12_isKey
theorem hq_X12_isSign : cw_Holds fk_all mt_all cw_Ds cw_sh G (cw_PQ G c kd s) kk_X12_isSign := cw_sound (cw_PQok G c kd s) cw_dpok_all (by decide) (M := mt_X12_isSign) rfl cw_kn ck_X12_isSign
theorem hq_X12_number : cw_Holds fk_all mt_all cw_Ds cw_sh G (cw_PQ G c kd s) kk_X12_number := cw_sound (cw_PQok G c kd s) cw_dpok_all (by decide) (M := mt_X12_number) rfl (cw_kc hq_X12_isIn rm_X12_isIn (cw_kc hq_X12_token rm_X12_token (cw_kc hq_X12_wrong rm_X12_wrong cw_kn))) ck_X12_number
theorem hq_X12_signed : cw_Holds fk_all mt_all cw_Ds cw_sh G (cw_PQ G c kd s) kk_X12_signed := cw_sound (cw_PQok G c kd s) cw_dpok_all (by decide) (M := mt_X12_signed) rfl (cw_kc hq_X12_isSign rm_X12_isSign (cw_kc hq_X12_number rm_X12_number (cw_kc hq_X12_token rm_X12_token cw_kn))) ck_X12_signed
theorem hq_X12_numbers : cw_Holds fk_all mt_all cw_Ds cw_sh G (cw_PQ G c kd s) kk_X12_numbers := cw_sound (cw_PQok G c kd s) cw_dpok_all (by decide) (M := mt_X12_numbers) rfl (cw_kc hq_X12_number rm_X12_number cw_kn) ck_X12_numbers
theorem hq_X12_numbers_1 : cw_Holds fk_all mt_all cw_Ds cw_sh G (cw_PQ G c kd s) kk_X12_numbers_1 := cw_sound (cw_PQok G c kd s) cw_dpok_all (by decide) (M := mt_X12_numbers) rfl (cw_kc hq_X12_number rm_X12_number cw_kn) ck_X12_numbers_1
theorem hq_X12_find : cw_Holds fk_all mt_all cw_Ds cw_sh G (cw_PQ G c kd s) kk_X12_find := cw_sound (cw_PQok G c kd s) cw_dpok_all (by decide) (M := mt_X12_find) rfl cw_kn ck_X12_find
theorem hq_X12_find_1 : cw_Holds fk_all mt_all cw_Ds cw_sh G (cw_PQ G c kd s) kk_X12_find_1 := cw_sound (cw_PQok G c kd s) cw_dpok_all (by decide) (M := mt_X12_find) rfl cw_kn ck_X12_find_1
theorem hq_X12_find_2 : cw_Holds fk_all mt_all cw_Ds cw_sh G (cw_PQ G c kd s) kk_X12_find_2 := cw_sound (cw_PQok G c kd s) cw_dpok_all (by decide) (M := mt_X12_find) rfl cw_kn ck_X12_find_2
theorem hq_X12_newName : cw_Holds fk_all mt_all cw_Ds cw_sh G (cw_PQ G c kd s) kk_X12_newName := cw_sound (cw_PQok G c kd s) cw_dpok_all (by decide) (M := mt_X12_newName) rfl (cw_kc hq_X12_find rm_X12_find (cw_kc hq_X12_token rm_X12_token (cw_kc hq_X12_wrong rm_X12_wrong cw_kn))) ck_X12_newName
theorem hq_X12_newName_1 : cw_Holds fk_all mt_all cw_Ds cw_sh G (cw_PQ G c kd s) kk_X12_newName_1 := cw_sound (cw_PQok G c kd s) cw_dpok_all (by decide) (M := mt_X12_newName) rfl (cw_kc hq_X12_find_1 rm_X12_find_1 (cw_kc hq_X12_token rm_X12_token (cw_kc hq_X12_wrong rm_X12_wrong cw_kn))) ck_X12_newName_1
theorem hq_X12_newName_2 : cw_Holds fk_all mt_all cw_Ds cw_sh G (cw_PQ G c kd s) kk_X12_newName_2 := cw_sound (cw_PQok G c kd s) cw_dpok_all (by decide) (M := mt_X12_newName) rfl (cw_kc hq_X12_find_2 rm_X12_find_2 (cw_kc hq_X12_token rm_X12_token (cw_kc hq_X12_wrong rm_X12_wrong cw_kn))) ck_X12_newName_2
theorem hq_X12_groundLine : cw_Holds fk_all mt_all cw_Ds cw_sh G (cw_PQ G c kd s) kk_X12_groundLine := cw_sound (cw_PQok G c kd s) cw_dpok_all (by decide) (M := mt_X12_groundLine) rfl (cw_kc hq_X12_numbers rm_X12_numbers (cw_kc hq_X12_token rm_X12_token (cw_kc hq_X12_wrong rm_X12_wrong cw_kn))) ck_X12_groundLine
theorem hq_X12_hasWord : cw_Holds fk_all mt_all cw_Ds cw_sh G (cw_PQ G c kd s) kk_X12_hasWord := cw_sound (cw_PQok G c kd s) cw_dpok_all (by decide) (M := mt_X12_hasWord) rfl (cw_kc hq_X12_isIn rm_X12_isIn cw_kn) ck_X12_hasWord
theorem hq_X12_workWord : cw_Holds fk_all mt_all cw_Ds cw_sh G (cw_PQ G c kd s) kk_X12_workWord := cw_sound (cw_PQok G c kd s) cw_dpok_all (by decide) (M := mt_X12_workWord) rfl (cw_kc hq_X12_isIn rm_X12_isIn cw_kn) ck_X12_workWord
theorem hq_X12_mostOf : cw_Holds fk_all mt_all cw_Ds cw_sh G (cw_PQ G c kd s) kk_X12_mostOf := cw_sound (cw_PQok G c kd s) cw_dpok_all (by decide) (M := mt_X12_mostOf) rfl cw_kn ck_X12_mostOf
theorem hq_X12_workLine : cw_Holds fk_all mt_all cw_Ds cw_sh G (cw_PQ G c kd s) kk_X12_workLine := cw_sound (cw_PQok G c kd s) cw_dpok_all (by decide) (M := mt_X12_workLine) rfl (cw_kc hq_X12_mostOf rm_X12_mostOf (cw_kc hq_X12_newName_1 rm_X12_newName_1 (cw_kc hq_X12_number rm_X12_number (cw_kc hq_X12_token rm_X12_token (cw_kc hq_X12_workWord rm_X12_workWord (cw_kc hq_X12_wrong rm_X12_wrong cw_kn)))))) ck_X12_workLine
theorem hq_X12_rank : cw_Holds fk_all mt_all cw_Ds cw_sh G (cw_PQ G c kd s) kk_X12_rank := cw_sound (cw_PQok G c kd s) cw_dpok_all (by decide) (M := mt_X12_rank) rfl cw_kn ck_X12_rank
theorem hq_X12_isCounted : cw_Holds fk_all mt_all cw_Ds cw_sh G (cw_PQ G c kd s) kk_X12_isCounted := cw_sound (cw_PQok G c kd s) cw_dpok_all (by decide) (M := mt_X12_isCounted) rfl (cw_kc hq_X12_wrong rm_X12_wrong cw_kn) ck_X12_isCounted
end SPQ
